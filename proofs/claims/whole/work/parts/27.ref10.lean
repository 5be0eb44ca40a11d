theorem KI.of3 {x : Nat × Int32 × zmem} {t : Nat} {kd : Int32} {m' : zmem} (h : KI x.1 x.2.1) (e : x = (t, kd, m')) : KI t kd := by
  subst e
  exact h
theorem rcus1 {n t tR : Nat} {kd : Int32} {mm mR : zmem} (h : rcusP (n + 1) (t, kd, mm) tR mR) (c : ¬ mm 57 16 = 0) : tR = t ∧ mR = mm := by
  unfold rcusP at h
  rw [if_pos c] at h
  exact h
theorem rcus2 {n t tR : Nat} {kd : Int32} {mm mR : zmem} (h : rcusP (n + 1) (t, kd, mm) tR mR) (c : ¬ ¬ mm 57 16 = 0) (c2 : rhr mm < 0) : tR = t ∧ mR = rat mm (rblk mm) := by
  unfold rcusP at h
  rw [if_neg c, if_pos c2] at h
  exact h
theorem rcus3 {n t tR : Nat} {kd : Int32} {mm mR : zmem} (h : rcusP (n + 1) (t, kd, mm) tR mR) (c : ¬ ¬ mm 57 16 = 0) (c2 : ¬ rhr mm < 0) : rcusP n (rct t kd (rtw (rat mm (rblk mm)))) tR mR := by
  unfold rcusP at h
  rw [if_neg c, if_neg c2] at h
  exact h
set_option maxRecDepth 100000 in
set_option maxHeartbeats 4000000 in
theorem c7_custom {m mR : zmem} {L F tR : Nat} (hL : m 57 12 = Int32.ofNat L) (hL4 : L ≤ 400) (hP : rcusP F (0, 0, rstart m) tR mR) : Ei MX7_custom 3 [.ref 57] m ((rk_custom tR mR).1) ((rk_custom tR mR).2) := by
  refine Ei.of (by decide) (Nat.le_of_ble_eq_true rfl) ?_
  show Z _ 0 [(0, .ref 57)] _ _ _ _
  refine z_aload_n 0 dX7_custom_0 rfl rfl ?_
  refine y_V0 [] _ kX7_141 c7_start rfl rfl dX7_custom_1 rfl rfl (Nat.le_of_ble_eq_true rfl) (Nat.le_of_ble_eq_true rfl) ⟨Nat.zero_le _, Nat.zero_le _⟩ ?_
  have join182 : tR ≤ 4 → Z (zMB (Qi ((rk_custom tR mR).1) ((rk_custom tR mR).2)) 3 MX7_custom) 182 [(0, .ref 57), (1, .int (Int32.ofNat tR))] [] (hp mR) 0 0 := by
    intro htR
    refine z_aload_n 0 dX7_custom_182 rfl rfl ?_
    refine z_iconst 0 dX7_custom_183 (by decide) ?_
    refine y_putI fX7_82 dX7_custom_184 rfl rfl ?_
    refine y_mem (m1 := rpar0 mR) rfl ?_
    refine z_aload_n 0 dX7_custom_187 rfl rfl ?_
    refine y_getI fX7_91 dX7_custom_188 rfl rfl ?_
    refine z_if_le 202 dX7_custom_191 (by decide) (fun c_1 => ?_) (fun c_1 => ?_)
    · refine z_iconst 0 dX7_custom_202 (by decide) ?_
      refine z_istore_n (lv' := [(3, .int 0), (0, .ref 57), (1, .int (Int32.ofNat tR))]) dX7_custom_203 rfl (Nat.le_of_ble_eq_true rfl) rfl ?_
      have loop204 : ∀ (q : Nat) (k : Nat) (mm : zmem), k + q = tR → sfold rcc tR 0 (rpar0 mR) = sfold rcc q k mm → Z (zMB (Qi ((rk_custom tR mR).1) ((rk_custom tR mR).2)) 3 MX7_custom) 204 [(0, .ref 57), (1, .int (Int32.ofNat tR)), (3, .int (Int32.ofNat k))] [] (hp mm) 0 0 := by
        intro q
        induction q with
        | zero =>
          intro k mm hk hr
          refine z_iload_n 2 dX7_custom_204 rfl rfl ?_
          refine z_iload_n 1 dX7_custom_205 rfl rfl ?_
          refine z_icmp_ge 227 dX7_custom_206 (by decide) (fun c_2 => ?_) (fun c_2 => ?_)
          · refine z_aload_n 0 dX7_custom_227 rfl rfl ?_
            refine z_iload_n 1 dX7_custom_228 rfl rfl ?_
            refine y_putI fX7_72 dX7_custom_229 rfl rfl ?_
            refine z_iload_n 1 dX7_custom_232 rfl rfl ?_
            exact y_iret dX7_custom_233 rfl (by first | (rw [rk_custom, if_pos c_1]; done) | (rw [rk_custom, if_neg c_1]; done)) (by first | (rw [rk_custom, if_pos c_1, hr]; rfl) | (rw [rk_custom, if_neg c_1]; done))
          · exact (dz rfl (b := Int32.ofNat tR) (N := tR) rfl (by omega) (by omega) c_2).elim
        | succ q ih204 =>
          intro k mm hk hr
          refine z_iload_n 2 dX7_custom_204 rfl rfl ?_
          refine z_iload_n 1 dX7_custom_205 rfl rfl ?_
          refine z_icmp_ge 227 dX7_custom_206 (by decide) (fun c_3 => ?_) (fun c_3 => ?_)
          · exact (ds rfl (b := Int32.ofNat tR) (N := tR) rfl (by omega) (by omega) c_3).elim
          · refine z_aload_n 0 dX7_custom_209 rfl rfl ?_
            refine y_getR fX7_39 dX7_custom_210 rfl rfl ?_
            refine z_iload_n 2 dX7_custom_213 rfl rfl ?_
            refine z_aload_n 0 dX7_custom_214 rfl rfl ?_
            refine y_getR fX7_48 dX7_custom_215 rfl rfl ?_
            refine z_iload_n 2 dX7_custom_218 rfl rfl ?_
            refine y_ald (N := k) dX7_custom_219 rfl rfl (by omega) ?_
            refine y_ast (N := k) dX7_custom_220 rfl rfl (by omega) ?_
            obtain ⟨v_4, e_4⟩ : ∃ y : Int32, y = (Int32.ofNat k) + 1 := ⟨_, rfl⟩
            refine z_iinc (lv' := [(3, .int v_4), (0, .ref 57), (1, .int (Int32.ofNat tR))]) 2 v_4 dX7_custom_221 rfl (by rw [e_4]; rfl) (Nat.le_of_ble_eq_true rfl) rfl ?_
            refine z_goto 204 dX7_custom_224 (by decide) ?_
            obtain rfl : v_4 = Int32.ofNat (k + 1) := e_4.trans (nat_succ k)
            refine z_sub [1,2,0] rfl ?_
            exact ih204 (k + 1) _ (by omega) hr
      refine z_sub [1,2,0] rfl ?_
      exact loop204 (tR) 0 _ (by omega) rfl
    · refine z_bipush (-10) dX7_custom_194 (by decide) ?_
      refine z_aload_n 0 dX7_custom_196 rfl rfl ?_
      refine y_getI fX7_91 dX7_custom_197 rfl rfl ?_
      refine z_isub dX7_custom_200 ?_
      exact y_iret dX7_custom_201 rfl (by first | (rw [rk_custom, if_pos c_1]; done) | (rw [rk_custom, if_neg c_1]; done)) (by first | (rw [rk_custom, if_pos c_1, hr]; rfl) | (rw [rk_custom, if_neg c_1]; done))
  refine z_iconst 0 dX7_custom_4 (by decide) ?_
  refine z_istore_n (lv' := [(1, .int 0), (0, .ref 57)]) dX7_custom_5 rfl (Nat.le_of_ble_eq_true rfl) rfl ?_
  refine z_iconst 0 dX7_custom_6 (by decide) ?_
  refine z_istore_n (lv' := [(2, .int 0), (1, .int 0), (0, .ref 57)]) dX7_custom_7 rfl (Nat.le_of_ble_eq_true rfl) rfl ?_
  have loop8 : ∀ (n : Nat) (t : Nat) (kd : Int32) (mm : zmem), rcusP n (t, kd, mm) tR mR → RT mm → KI t kd → Z (zMB (Qi ((rk_custom tR mR).1) ((rk_custom tR mR).2)) 3 MX7_custom) 8 [(0, .ref 57), (1, .int (Int32.ofNat t)), (2, .int kd)] [] (hp mm) 0 0 := by
    intro n
    induction n with
    | zero =>
      intro t kd mm hP hT hK
      exact hP.elim
    | succ n ih8 =>
      intro t kd mm hP hT hK
      refine z_aload_n 0 dX7_custom_8 rfl rfl ?_
      refine y_getI fX7_91 dX7_custom_9 rfl rfl ?_
      refine z_if_ne 182 dX7_custom_12 (by decide) (fun c_5 => ?_) (fun c_5 => ?_)
      · obtain ⟨rfl, rfl⟩ : tR = t ∧ mR = mm := rcus1 hP c_5
        refine z_sub [0,1] rfl ?_
        exact join182 hK.le
      · refine z_aload_n 0 dX7_custom_15 rfl rfl ?_
        refine y_Vi [] _ kX7_94 (c7_here hT) rfl rfl dX7_custom_16 rfl rfl (Nat.le_of_ble_eq_true rfl) (Nat.le_of_ble_eq_true rfl) ⟨Nat.zero_le _, Nat.zero_le _⟩ ?_
        refine z_if_lt 182 dX7_custom_19 (by decide) (fun c_6 => ?_) (fun c_6 => ?_)
        · obtain ⟨rfl, rfl⟩ : tR = t ∧ mR = rat mm (rblk mm) := rcus2 hP (fun q => q c_5) c_6
          refine z_sub [0,1] rfl ?_
          exact join182 hK.le
        · refine z_aload_n 0 dX7_custom_22 rfl rfl ?_
          refine y_V0 [] _ kX7_117 (c7_word hT.here) rfl rfl dX7_custom_23 rfl rfl (Nat.le_of_ble_eq_true rfl) (Nat.le_of_ble_eq_true rfl) ⟨Nat.zero_le _, Nat.zero_le _⟩ ?_
          obtain ⟨m1, hm1⟩ : ∃ x, x = rtw (rat mm (rblk mm)) := ⟨_, rfl⟩
          refine y_mem (m1 := m1) hm1.symm ?_
          have h1 : RT m1 := by { rw [hm1]; exact RT.tws hT }
          refine z_aload_n 0 dX7_custom_26 rfl rfl ?_
          have join175 : ∀ (t5 : Nat) (kd5 : Int32) (m5 : zmem), rct t kd m1 = (t5, kd5, rend m5) → RT m5 → Z (zMB (Qi ((rk_custom tR mR).1) ((rk_custom tR mR).2)) 3 MX7_custom) 175 [(0, .ref 57), (1, .int (Int32.ofNat t5)), (2, .int kd5)] [] (hp m5) 0 0 := by
            intro t5 kd5 m5 h5 hT5
            refine z_aload_n 0 dX7_custom_175 rfl rfl ?_
            refine y_V0 [] _ kX7_138 (c7_end hT5) rfl rfl dX7_custom_176 rfl rfl (Nat.le_of_ble_eq_true rfl) (Nat.le_of_ble_eq_true rfl) ⟨Nat.zero_le _, Nat.zero_le _⟩ ?_
            refine z_goto 8 dX7_custom_179 (by decide) ?_
            refine z_sub [0,1,2] rfl ?_
            exact ih8 t5 _ _ (by have q := rcus3 hP (fun q => q c_5) c_6; rw [← hm1, h5] at q; exact q) hT5.fin (KI.of3 (hK.ct h1).1 h5)
          have join112 : ∀ (kk : Int32), kk = rkind m1 → Z (zMB (Qi ((rk_custom tR mR).1) ((rk_custom tR mR).2)) 3 MX7_custom) 112 [(0, .ref 57), (1, .int (Int32.ofNat t)), (2, .int kd)] [.int kk] (hp m1) 0 0 := by
            intro kk hkk
            refine z_istore_n (lv' := [(3, .int kk), (0, .ref 57), (1, .int (Int32.ofNat t)), (2, .int kd)]) dX7_custom_112 rfl (Nat.le_of_ble_eq_true rfl) rfl ?_
            have join123 : ∀ (g : Int32), g = rcg1 m1 → Z (zMB (Qi ((rk_custom tR mR).1) ((rk_custom tR mR).2)) 3 MX7_custom) 123 [(0, .ref 57), (1, .int (Int32.ofNat t)), (2, .int kd), (3, .int kk)] [.int g, .ref 57] (hp m1) 0 0 := by
              intro g hg1
              refine z_iconst 1 dX7_custom_123 (by decide) ?_
              refine z_aload_n 0 dX7_custom_124 rfl rfl ?_
              refine y_getI fX7_98 dX7_custom_125 rfl rfl ?_
              refine y_Vi [_, _, _] _ kX7_112 c7_want rfl rfl dX7_custom_128 rfl rfl (Nat.le_of_ble_eq_true rfl) (Nat.le_of_ble_eq_true rfl) ⟨Nat.zero_le _, Nat.zero_le _⟩ ?_
              refine z_if_eq 175 dX7_custom_131 (by decide) (fun c_7 => ?_) (fun c_7 => ?_)
              · skip
                refine z_sub [0,1,2] rfl ?_
                exact join175 t kd _ (by have a1 : rwantr m1 (rcg1 m1) 1 (m1 57 14) = 0 := by { rw [← hg1]; exact c_7 }; rw [rct, if_pos a1, rcw1, ← hg1]) (RT.want h1)
              · obtain ⟨m2, hm2⟩ : ∃ x, x = rcw1 m1 := ⟨_, rfl⟩
                refine y_mem (m1 := m2) (by rw [hm2, rcw1, ← hg1]) ?_
                have h2 : RT m2 := by { rw [hm2, rcw1]; exact RT.want h1 }
                refine z_aload_n 0 dX7_custom_134 rfl rfl ?_
                have join148 : ∀ (g2 : Int32), g2 = rcg2 m1 kd → Z (zMB (Qi ((rk_custom tR mR).1) ((rk_custom tR mR).2)) 3 MX7_custom) 148 [(0, .ref 57), (1, .int (Int32.ofNat t)), (2, .int kd), (3, .int kk)] [.int g2, .ref 57] (hp m2) 0 0 := by
                  intro g2 hg2
                  refine z_iconst 3 dX7_custom_148 (by decide) ?_
                  refine z_aload_n 0 dX7_custom_149 rfl rfl ?_
                  refine y_getI fX7_98 dX7_custom_150 rfl rfl ?_
                  refine y_Vi [_, _, _] _ kX7_112 c7_want rfl rfl dX7_custom_153 rfl rfl (Nat.le_of_ble_eq_true rfl) (Nat.le_of_ble_eq_true rfl) ⟨Nat.zero_le _, Nat.zero_le _⟩ ?_
                  refine z_if_eq 175 dX7_custom_156 (by decide) (fun c_8 => ?_) (fun c_8 => ?_)
                  · skip
                    refine z_sub [0,1,2] rfl ?_
                    exact join175 t kd _ (by have a1 : ¬ rwantr m1 (rcg1 m1) 1 (m1 57 14) = 0 := by { rw [← hg1]; exact c_7 }; have a2 : rwantr (rcw1 m1) (rcg2 m1 kd) 3 (rcw1 m1 57 14) = 0 := by { rw [← hg2, ← hm2]; exact c_8 }; rw [rct, if_neg a1, if_pos a2, rcw2, ← hm2, ← hg2]) (RT.want h2)
                  · obtain ⟨m3, hm3⟩ : ∃ x, x = rcw2 m1 kd := ⟨_, rfl⟩
                    refine y_mem (m1 := m3) (by rw [hm3, rcw2, ← hm2, ← hg2]) ?_
                    have h3 : RT m3 := by { rw [hm3, rcw2, rcw1]; exact RT.want (RT.want h1) }
                    have ht8 := hK.le
                    refine z_iload_n 2 dX7_custom_159 rfl rfl ?_
                    refine z_iconst 1 dX7_custom_160 (by decide) ?_
                    refine z_iload_n 3 dX7_custom_161 rfl rfl ?_
                    refine z_ishl dX7_custom_162 ?_
                    refine z_ior dX7_custom_163 ?_
                    refine z_topi (fun v_9 e_9 => ?_)
                    refine z_istore_n (lv' := [(2, .int v_9), (0, .ref 57), (1, .int (Int32.ofNat t)), (3, .int kk)]) dX7_custom_164 rfl (Nat.le_of_ble_eq_true rfl) rfl ?_
                    refine z_aload_n 1 dX7_custom_165 rfl rfl ?_
                    refine y_getR fX7_48 dX7_custom_166 rfl rfl ?_
                    refine z_iload_n 2 dX7_custom_169 rfl rfl ?_
                    refine z_iload_n 3 dX7_custom_170 rfl rfl ?_
                    refine y_ast (N := t) dX7_custom_171 rfl rfl (by omega) ?_
                    obtain ⟨v_10, e_10⟩ : ∃ y : Int32, y = (Int32.ofNat t) + 1 := ⟨_, rfl⟩
                    refine z_iinc (lv' := [(1, .int v_10), (2, .int v_9), (0, .ref 57), (3, .int kk)]) 2 v_10 dX7_custom_172 rfl (by rw [e_10]; rfl) (Nat.le_of_ble_eq_true rfl) rfl ?_
                    obtain rfl : v_10 = Int32.ofNat (t + 1) := e_10.trans (nat_succ t); subst e_9
                    refine z_sub [2,0,1] rfl ?_
                    exact join175 (t + 1) _ _ (by have a1 : ¬ rwantr m1 (rcg1 m1) 1 (m1 57 14) = 0 := by { rw [← hg1]; exact c_7 }; have a2 : ¬ rwantr (rcw1 m1) (rcg2 m1 kd) 3 (rcw1 m1 57 14) = 0 := by { rw [← hg2, ← hm2]; exact c_8 }; rw [rct, if_neg a1, if_neg a2, ← hm3, ← hkk]) (RT.cell h3 (by decide))
                refine z_iload_n 2 dX7_custom_135 rfl rfl ?_
                refine z_iload_n 3 dX7_custom_136 rfl rfl ?_
                refine y_Si [_, _] _ kX7_150 c7_has dX7_custom_137 rfl rfl (Nat.le_of_ble_eq_true rfl) (Nat.le_of_ble_eq_true rfl) ⟨Nat.zero_le _, Nat.zero_le _⟩ ?_
                refine z_if_ne 147 dX7_custom_140 (by decide) (fun c_11 => ?_) (fun c_11 => ?_)
                · refine z_iconst 0 dX7_custom_147 (by decide) ?_
                  refine z_sub [0,1,2,3] rfl ?_
                  exact join148 _ (by simp only [rcg2, ← hkk, c_5, c_6, c_7, c_11, eq_self, if_true, not_true_eq_false, not_false_eq_true, if_false, reduceIte])
                · refine z_iconst 1 dX7_custom_143 (by decide) ?_
                  refine z_goto 148 dX7_custom_144 (by decide) ?_
                  refine z_sub [0,1,2,3] rfl ?_
                  exact join148 _ (by simp only [rcg2, ← hkk, c_5, c_6, c_7, c_11, eq_self, if_true, not_true_eq_false, not_false_eq_true, if_false, reduceIte])
            refine z_aload_n 1 dX7_custom_113 rfl rfl ?_
            refine z_iload_n 0 dX7_custom_114 rfl rfl ?_
            refine z_if_lt 122 dX7_custom_115 (by decide) (fun c_12 => ?_) (fun c_12 => ?_)
            · refine z_iconst 0 dX7_custom_122 (by decide) ?_
              refine z_sub [1,2,3,0] rfl ?_
              exact join123 _ (by simp only [rcg1, ← hkk, c_5, c_6, c_12, eq_self, if_true, not_true_eq_false, not_false_eq_true, if_false, reduceIte])
            · refine z_iconst 1 dX7_custom_118 (by decide) ?_
              refine z_goto 123 dX7_custom_119 (by decide) ?_
              refine z_sub [1,2,3,0] rfl ?_
              exact join123 _ (by simp only [rcg1, ← hkk, c_5, c_6, c_12, eq_self, if_true, not_true_eq_false, not_false_eq_true, if_false, reduceIte])
          refine z_iconst 4 dX7_custom_27 (by decide) ?_
          refine z_bipush 114 dX7_custom_28 (by decide) ?_
          refine z_bipush 97 dX7_custom_30 (by decide) ?_
          refine z_bipush 110 dX7_custom_32 (by decide) ?_
          refine z_bipush 107 dX7_custom_34 (by decide) ?_
          refine z_iconst 0 dX7_custom_36 (by decide) ?_
          refine y_Vi [_, _, _, _, _, _] _ kX7_120 (c7_isw1 (N := 4) hT.here hm1) rfl rfl dX7_custom_37 rfl rfl (Nat.le_of_ble_eq_true rfl) (Nat.le_of_ble_eq_true rfl) ⟨Nat.zero_le _, Nat.zero_le _⟩ ?_
          refine z_if_eq 47 dX7_custom_40 (by decide) (fun c_13 => ?_) (fun c_13 => ?_)
          · refine z_aload_n 0 dX7_custom_47 rfl rfl ?_
            refine z_iconst 5 dX7_custom_48 (by decide) ?_
            refine z_bipush 119 dX7_custom_49 (by decide) ?_
            refine z_bipush 97 dX7_custom_51 (by decide) ?_
            refine z_bipush 105 dX7_custom_53 (by decide) ?_
            refine z_bipush 116 dX7_custom_55 (by decide) ?_
            refine z_bipush 115 dX7_custom_57 (by decide) ?_
            refine y_Vi [_, _, _, _, _, _] _ kX7_120 (c7_isw1 (N := 5) hT.here hm1) rfl rfl dX7_custom_59 rfl rfl (Nat.le_of_ble_eq_true rfl) (Nat.le_of_ble_eq_true rfl) ⟨Nat.zero_le _, Nat.zero_le _⟩ ?_
            refine z_if_eq 69 dX7_custom_62 (by decide) (fun c_14 => ?_) (fun c_14 => ?_)
            · refine z_aload_n 0 dX7_custom_69 rfl rfl ?_
              refine z_iconst 5 dX7_custom_70 (by decide) ?_
              refine z_bipush 103 dX7_custom_71 (by decide) ?_
              refine z_bipush 105 dX7_custom_73 (by decide) ?_
              refine z_bipush 102 dX7_custom_75 (by decide) ?_
              refine z_bipush 116 dX7_custom_77 (by decide) ?_
              refine z_bipush 115 dX7_custom_79 (by decide) ?_
              refine y_Vi [_, _, _, _, _, _] _ kX7_120 (c7_isw1 (N := 5) hT.here hm1) rfl rfl dX7_custom_81 rfl rfl (Nat.le_of_ble_eq_true rfl) (Nat.le_of_ble_eq_true rfl) ⟨Nat.zero_le _, Nat.zero_le _⟩ ?_
              refine z_if_eq 91 dX7_custom_84 (by decide) (fun c_15 => ?_) (fun c_15 => ?_)
              · refine z_aload_n 0 dX7_custom_91 rfl rfl ?_
                refine z_iconst 3 dX7_custom_92 (by decide) ?_
                refine z_bipush 107 dX7_custom_93 (by decide) ?_
                refine z_bipush 105 dX7_custom_95 (by decide) ?_
                refine z_bipush 110 dX7_custom_97 (by decide) ?_
                refine z_iconst 0 dX7_custom_99 (by decide) ?_
                refine z_iconst 0 dX7_custom_100 (by decide) ?_
                refine y_Vi [_, _, _, _, _, _] _ kX7_120 (c7_isw1 (N := 3) hT.here hm1) rfl rfl dX7_custom_101 rfl rfl (Nat.le_of_ble_eq_true rfl) (Nat.le_of_ble_eq_true rfl) ⟨Nat.zero_le _, Nat.zero_le _⟩ ?_
                refine z_if_eq 111 dX7_custom_104 (by decide) (fun c_16 => ?_) (fun c_16 => ?_)
                · refine z_iconst (-1) dX7_custom_111 (by decide) ?_
                  refine z_sub [0,1,2] rfl ?_
                  exact join112 _ (by simp only [rkind, c_5, c_6, c_13, c_14, c_15, c_16, eq_self, if_true, not_true_eq_false, not_false_eq_true, if_false, reduceIte])
                · refine z_iconst 3 dX7_custom_107 (by decide) ?_
                  refine z_goto 112 dX7_custom_108 (by decide) ?_
                  refine z_sub [0,1,2] rfl ?_
                  exact join112 _ (by simp only [rkind, c_5, c_6, c_13, c_14, c_15, c_16, eq_self, if_true, not_true_eq_false, not_false_eq_true, if_false, reduceIte])
              · refine z_iconst 2 dX7_custom_87 (by decide) ?_
                refine z_goto 112 dX7_custom_88 (by decide) ?_
                refine z_sub [0,1,2] rfl ?_
                exact join112 _ (by simp only [rkind, c_5, c_6, c_13, c_14, c_15, eq_self, if_true, not_true_eq_false, not_false_eq_true, if_false, reduceIte])
            · refine z_iconst 1 dX7_custom_65 (by decide) ?_
              refine z_goto 112 dX7_custom_66 (by decide) ?_
              refine z_sub [0,1,2] rfl ?_
              exact join112 _ (by simp only [rkind, c_5, c_6, c_13, c_14, eq_self, if_true, not_true_eq_false, not_false_eq_true, if_false, reduceIte])
          · refine z_iconst 0 dX7_custom_43 (by decide) ?_
            refine z_goto 112 dX7_custom_44 (by decide) ?_
            refine z_sub [0,1,2] rfl ?_
            exact join112 _ (by simp only [rkind, c_5, c_6, c_13, eq_self, if_true, not_true_eq_false, not_false_eq_true, if_false, reduceIte])
  refine z_sub [2,1,0] rfl ?_
  exact loop8 F 0 _ _ hP (RT.p0 hL hL4) ⟨0, by decide, rfl, rfl⟩
/-! THE START: the two objects made -/
set_option maxRecDepth 100000 in
def hpC (m : zmem) : zH := zshC.mapIdx (fun k s => zcell m k s)
set_option maxRecDepth 100000 in
theorem hpC_get {m : zmem} {k : Nat} {s : zSh} (h : zshC[k]? = some s) : (hpC m)[k]? = some (zcell m k s) := by
  simp [hpC, List.getElem?_mapIdx, h]
set_option maxRecDepth 100000 in
theorem hpC_set {m : zmem} {q j : Nat} {v : Int32} {s : zSh} {e : zE} (h : zshC[q]? = some s) (he : e = zcell (mset m q j v) q s) : (hpC m).set q e = hpC (mset m q j v) := by
  subst he
  apply List.ext_getElem?
  intro i
  by_cases hi : q = i
  · subst hi
    rw [List.getElem?_set_self (by have := (List.getElem?_eq_some_iff.mp h).1; simpa [hpC] using this), hpC_get h]
  · rw [List.getElem?_set_ne hi]
    simp only [hpC, List.getElem?_mapIdx]
    cases hs : zshC[i]? with
    | none => rfl
    | some s2 => simp only [Option.map_some]; rw [zcell_eq s2 (m' := mset m q j v) (mset_cell v (Ne.symm hi)).symm]
set_option maxRecDepth 100000 in
def Qic (r : Int32) (m : zmem) : Option Value → zH → Prop := fun o h => o = some (.int r) ∧ h = hpC m
set_option maxRecDepth 100000 in
def Q0c (m : zmem) : Option Value → zH → Prop := fun o h => o = none ∧ h = hpC m
set_option maxRecDepth 100000 in
def Eic (M : zM) (d : Nat) (av : List Value) (m : zmem) (r : Int32) (m1 : zmem) : Prop := Ev M d 0 0 av (hpC m) (Qic r m1)
set_option maxRecDepth 100000 in
def E0c (M : zM) (d : Nat) (av : List Value) (m m1 : zmem) : Prop := Ev M d 0 0 av (hpC m) (Q0c m1)
set_option maxRecDepth 100000 in
theorem Eic.of {M : zM} {d : Nat} {av : List Value} {m m1 : zmem} {r : Int32} (hy : plainName (zy M).cls = true) (hlen : (lg_sl av).length ≤ zmL M) (body : Z (zMB (Qic r m1) d M) 0 (lv_args 0 av) [] (hpC m) 0 0) : Eic M d av m r m1 := Ev.of hy hlen body
set_option maxRecDepth 100000 in
theorem E0c.of {M : zM} {d : Nat} {av : List Value} {m m1 : zmem} (hy : plainName (zy M).cls = true) (hlen : (lg_sl av).length ≤ zmL M) (body : Z (zMB (Q0c m1) d M) 0 (lv_args 0 av) [] (hpC m) 0 0) : E0c M d av m m1 := Ev.of hy hlen body
set_option maxRecDepth 100000 in
theorem ykic {B : zB} {pc : Nat} {lv : zL} {st : List Value} {ce sl : Nat} {r : Int32} {m1 : zmem} {o : Option Value} {h1 : zH} (hq : Qic r m1 o h1) (k : Z B pc lv (.int r :: st) (hpC m1) ce sl) : Z B pc lv (o.toList ++ st) h1 ce sl := by
  have e1 : o = some (.int r) := hq.1
  have e2 : h1 = hpC m1 := hq.2
  rw [e1, e2]
  exact k
set_option maxRecDepth 100000 in
theorem yk0c {B : zB} {pc : Nat} {lv : zL} {st : List Value} {ce sl : Nat} {m1 : zmem} {o : Option Value} {h1 : zH} (hq : Q0c m1 o h1) (k : Z B pc lv st (hpC m1) ce sl) : Z B pc lv (o.toList ++ st) h1 ce sl := by
  have e1 : o = none := hq.1
  have e2 : h1 = hpC m1 := hq.2
  rw [e1, e2]
  exact k
section ZYC
variable {B : zB} {pc : Nat} {lv : zL} {st : List Value} {m : zmem} {ce sl : Nat}
set_option maxRecDepth 100000 in
theorem yc_getI {q idx ci k : Nat} {ty : FieldType} {fin : Bool} {t : List (Option Nat)} (hf : zFl (zy (zbM B)).cls idx ci k ty fin) (hd : decode (zbc B) pc = .ok (.getfield idx, 3)) (hs : zshC[q]? = some (.inr (ci, t))) (ht : t[k]? = some none) (kk : Z B (pc + 3) lv (.int (m q k) :: st) (hpC m) ce sl) : Z B pc lv (.ref q :: st) (hpC m) ce sl :=
  z_getf hf hd (hpC_get hs) (by have h := zfs_get (m := m) (k := q) t 0 k none ht; rw [Nat.zero_add] at h; exact h) kk
set_option maxRecDepth 100000 in
theorem yc_getR {q idx ci k r : Nat} {ty : FieldType} {fin : Bool} {t : List (Option Nat)} (hf : zFl (zy (zbM B)).cls idx ci k ty fin) (hd : decode (zbc B) pc = .ok (.getfield idx, 3)) (hs : zshC[q]? = some (.inr (ci, t))) (ht : t[k]? = some (some r)) (kk : Z B (pc + 3) lv (.ref r :: st) (hpC m) ce sl) : Z B pc lv (.ref q :: st) (hpC m) ce sl :=
  z_getf hf hd (hpC_get hs) (zfs_get (m := m) (k := q) t 0 k (some r) ht) kk
set_option maxRecDepth 100000 in
theorem yc_putI {q idx ci k : Nat} {t : List (Option Nat)} {v : Int32} (hf : zFl (zy (zbM B)).cls idx ci k .int false) (hd : decode (zbc B) pc = .ok (.putfield idx, 3)) (hs : zshC[q]? = some (.inr (ci, t))) (ht : t[k]? = some none) (kk : Z B (pc + 3) lv st (hpC (mset m q k v)) ce sl) : Z B pc lv (.int v :: .ref q :: st) (hpC m) ce sl := by
  refine z_putf hf (fun _ => rfl) (fun _ => rfl) (by rw [zfs_len]; exact (List.getElem?_eq_some_iff.mp ht).1) hd (hpC_get hs) ?_
  rw [hpC_set (v := v) (j := k) hs (by simp only [zcell]; rw [zfs_set t 0 k ht, Nat.zero_add])]
  exact kk
set_option maxRecDepth 100000 in
theorem yc_iast {q n : Nat} {i x : Int32} (hd : decode (zbc B) pc = .ok (.iastore, 1)) (hs : zshC[q]? = some (.inl (.int, n))) (hin : vp_in i n) (kk : Z B (pc + 1) lv st (hpC (mset m q i.toNatClampNeg x)) ce sl) : Z B pc lv (.int x :: .int i :: .ref q :: st) (hpC m) ce sl := by
  refine z_iast hd (hpC_get hs) hin ?_
  rw [hpC_set (v := x) (j := i.toNatClampNeg) hs (by simp only [zcell]; rw [mset_row])]
  exact kk
set_option maxRecDepth 100000 in
theorem yc_alen {q n : Nat} {ty : FieldType} (v : Int32) (hd : decode (zbc B) pc = .ok (.arraylength, 1)) (hs : zshC[q]? = some (.inl (ty, n))) (hv : Int32.ofNat n = v) (kk : Z B (pc + 1) lv (.int v :: st) (hpC m) ce sl) : Z B pc lv (.ref q :: st) (hpC m) ce sl := z_alen v hd (hpC_get hs) hv kk
set_option maxRecDepth 100000 in
theorem yc_Si {Mj : zM} {d idx n : Nat} {st0 : List Value} {r : Int32} {m1 : zmem} (av : List Value) (st : List Value) (hw : zCallS (zy (zbM B)).cls idx Mj n) (hE : Eic Mj d av m r m1) (hd : decode (zbc B) pc = .ok (.invokestatic idx, 3)) (hs0 : st0 = av.reverse ++ st) (hn : av.length = n) (hst : (st.map fun v => v.category).sum ≤ 8) (hD : d + 1 ≤ zbD B) (hc : ce ≤ B.2.2.1 ∧ sl ≤ B.2.2.2.1) (k : Z B (pc + 3) lv (.int r :: st) (hpC m1) ce sl) : Z B pc lv st0 (hpC m) ce sl := by
  subst hs0
  exact z_callS av hw hE hd hn hst hD hc.1 hc.2 (fun o h1 hq => ykic hq k)
set_option maxRecDepth 100000 in
theorem yc_S0 {Mj : zM} {d idx n : Nat} {st0 : List Value} {m1 : zmem} (av : List Value) (st : List Value) (hw : zCallS (zy (zbM B)).cls idx Mj n) (hE : E0c Mj d av m m1) (hd : decode (zbc B) pc = .ok (.invokestatic idx, 3)) (hs0 : st0 = av.reverse ++ st) (hn : av.length = n) (hst : (st.map fun v => v.category).sum ≤ 8) (hD : d + 1 ≤ zbD B) (hc : ce ≤ B.2.2.1 ∧ sl ≤ B.2.2.2.1) (k : Z B (pc + 3) lv st (hpC m1) ce sl) : Z B pc lv st0 (hpC m) ce sl := by
  subst hs0
  exact z_callS av hw hE hd hn hst hD hc.1 hc.2 (fun o h1 hq => yk0c hq k)
set_option maxRecDepth 100000 in
theorem yc_V0 {Mj : zM} {d idx n q ci N : Nat} {T : u_T} {t : List (Option Nat)} {st0 : List Value} {m1 : zmem} (av : List Value) (st : List Value) (hw : zCallV (zy (zbM B)).cls idx Mj n) (hE : E0c Mj d (.ref q :: av) m m1) (hci : vwCl[ci]? = some ((zy Mj).cls, T, N)) (hs : zshC[q]? = some (.inr (ci, t))) (hd : decode (zbc B) pc = .ok (.invokevirtual idx, 3)) (hs0 : st0 = av.reverse ++ .ref q :: st) (hn : av.length = n) (hst : (st.map fun v => v.category).sum ≤ 8) (hD : d + 1 ≤ zbD B) (hc : ce ≤ B.2.2.1 ∧ sl ≤ B.2.2.2.1) (k : Z B (pc + 3) lv st (hpC m1) ce sl) : Z B pc lv st0 (hpC m) ce sl := by
  subst hs0
  exact z_callV av hw hE hci hd (hpC_get hs) hn hst hD hc.1 hc.2 (fun o h1 hq => yk0c hq k)
set_option maxRecDepth 100000 in
theorem yc_mem {m1 : zmem} (h : m = m1) (k : Z B pc lv st (hpC m1) ce sl) : Z B pc lv st (hpC m) ce sl := by subst h; exact k
end ZYC
section ZYRC
variable {M : zM} {D pc : Nat} {lv : zL} {m m1 : zmem}
set_option maxRecDepth 100000 in
theorem yc_iret {v r : Int32} (hd : decode (zcc M) pc = .ok (.ireturn, 1)) (hr : zrt M = some .int) (hv : v = r) (hm : m = m1) : Z (zMB (Qic r m1) D M) pc lv [.int v] (hpC m) 0 0 := by
  subst hv; subst hm
  exact z_iret hd hr (Nat.le_refl 0) (Nat.le_refl 0) ⟨rfl, rfl⟩
set_option maxRecDepth 100000 in
theorem yc_vret (hd : decode (zcc M) pc = .ok (.return_, 1)) (hr : zrt M = none) (hm : m = m1) : Z (zMB (Q0c m1) D M) pc lv [] (hpC m) 0 0 := by
  subst hm
  exact z_vret hd hr (Nat.le_refl 0) (Nat.le_refl 0) ⟨rfl, rfl⟩
end ZYRC
set_option maxRecDepth 100000 in
def isParc (p : Nat) : Prop := zshC[p]? = some (.inr (3, [none, none, none, none, some (p + 1), some (p + 2), some (p + 3), some (p + 4), some (p + 5), some (p + 6), some (p + 7), some (p + 8), some (p + 9), none, none, none])) ∧ zshC[p + 1]? = some (zarr 8) ∧ zshC[p + 2]? = some (zarr 7) ∧ zshC[p + 3]? = some (zarr 7) ∧ zshC[p + 4]? = some (zarr 7) ∧ zshC[p + 5]? = some (zarr 7) ∧ zshC[p + 6]? = some (zarr 7) ∧ zshC[p + 7]? = some (zarr 7) ∧ zshC[p + 8]? = some (zarr 7) ∧ zshC[p + 9]? = some (zarr 7)
set_option maxRecDepth 100000 in
def isCusc (r : Nat) : Prop := zshC[r]? = some (.inr (1, [some (r + 1), none])) ∧ zshC[r + 1]? = some (zarr 4)
set_option maxRecDepth 100000 in
theorem cc_put {m : zmem} {q n : Nat} {i v : Int32} (hq : zshC[q]? = some (zarr n)) (hn : n < 2147483648) : E0c MX6_put 0 [.ref q, .int i, .int v] m (aput m q n i v) := by
  refine E0c.of (by decide) (Nat.le_of_ble_eq_true rfl) ?_
  show Z _ 0 [(0, .ref q), (1, .int i), (2, .int v)] _ _ _ _
  refine z_aload_n 0 dX6_put_0 rfl rfl ?_
  refine z_ifnull dX6_put_1 ?_
  refine z_iload_n 1 dX6_put_4 rfl rfl ?_
  refine z_if_lt 18 dX6_put_5 (by decide) (fun c_1 => ?_) (fun c_1 => ?_)
  · exact yc_vret dX6_put_18 rfl (by simp [aput, c_1])
  · refine z_iload_n 1 dX6_put_8 rfl rfl ?_
    refine z_aload_n 0 dX6_put_9 rfl rfl ?_
    refine yc_alen _ dX6_put_10 hq rfl ?_
    refine z_icmp_ge 18 dX6_put_11 (by decide) (fun c_2 => ?_) (fun c_2 => ?_)
    · exact yc_vret dX6_put_18 rfl (by simp [aput, c_1, c_2])
    · refine z_aload_n 0 dX6_put_14 rfl rfl ?_
      refine z_iload_n 1 dX6_put_15 rfl rfl ?_
      refine z_iload_n 2 dX6_put_16 rfl rfl ?_
      refine yc_iast dX6_put_17 hq (vin_of hn c_1 c_2) ?_
      exact yc_vret dX6_put_18 rfl (by simp [aput, c_1, c_2])
set_option maxRecDepth 100000 in
theorem cc_bit {m : zmem} {k : Int32} : Eic MX6_bit 0 [.int k] m (sbit k) (m) := by
  refine Eic.of (by decide) (Nat.le_of_ble_eq_true rfl) ?_
  show Z _ 0 [(0, .int k)] _ _ _ _
  refine z_iload_n 0 dX6_bit_0 rfl rfl ?_
  refine z_if_lt 16 dX6_bit_1 (by decide) (fun c_1 => ?_) (fun c_1 => ?_)
  · refine z_iconst 0 dX6_bit_16 (by decide) ?_
    exact yc_iret dX6_bit_17 rfl (by simp [sbit, c_1]) rfl
  · refine z_iload_n 0 dX6_bit_4 rfl rfl ?_
    refine z_bipush 31 dX6_bit_5 (by decide) ?_
    refine z_icmp_ge 16 dX6_bit_7 (by decide) (fun c_2 => ?_) (fun c_2 => ?_)
    · refine z_iconst 0 dX6_bit_16 (by decide) ?_
      exact yc_iret dX6_bit_17 rfl (by simp [sbit, c_1, c_2]) rfl
    · refine z_iconst 1 dX6_bit_10 (by decide) ?_
      refine z_iload_n 0 dX6_bit_11 rfl rfl ?_
      refine z_ishl dX6_bit_12 ?_
      refine z_goto 17 dX6_bit_13 (by decide) ?_
      exact yc_iret dX6_bit_17 rfl (by simp [sbit, c_1, c_2]) rfl
set_option maxRecDepth 100000 in
theorem cc_allBelow {m : zmem} {k : Int32} : Eic MX6_allBelow 1 [.int k] m (sbit k - 1) (m) := by
  refine Eic.of (by decide) (Nat.le_of_ble_eq_true rfl) ?_
  show Z _ 0 [(0, .int k)] _ _ _ _
  refine z_iload_n 0 dX6_allBelow_0 rfl rfl ?_
  refine yc_Si [_] _ kX6_199 cc_bit dX6_allBelow_1 rfl rfl (Nat.le_of_ble_eq_true rfl) (Nat.le_of_ble_eq_true rfl) ⟨Nat.zero_le _, Nat.zero_le _⟩ ?_
  refine z_iconst 1 dX6_allBelow_4 (by decide) ?_
  refine z_isub dX6_allBelow_5 ?_
  exact yc_iret dX6_allBelow_6 rfl rfl rfl

set_option maxRecDepth 100000 in
theorem cc_addC {m : zmem} {r : Nat} {c : Int32} (hR : isCusc r) : E0c MX1_add 1 [.ref r, .int c] m (sadd m r c) := by
  refine E0c.of (by decide) (Nat.le_of_ble_eq_true rfl) ?_
  show Z _ 0 [(0, .ref r), (1, .int c)] _ _ _ _
  refine z_aload_n 0 dX1_add_0 rfl rfl ?_
  refine yc_getR fX1_9 dX1_add_1 hR.1 rfl ?_
  refine z_aload_n 0 dX1_add_4 rfl rfl ?_
  refine yc_getI fX1_15 dX1_add_5 hR.1 rfl ?_
  refine z_iload_n 1 dX1_add_8 rfl rfl ?_
  refine yc_S0 [_, _, _] _ kX1_19 (cc_put hR.2 (by decide)) dX1_add_9 rfl rfl (Nat.le_of_ble_eq_true rfl) (Nat.le_of_ble_eq_true rfl) ⟨Nat.zero_le _, Nat.zero_le _⟩ ?_
  refine z_aload_n 0 dX1_add_12 rfl rfl ?_
  refine z_dup dX1_add_13 rfl ?_
  refine yc_getI fX1_15 dX1_add_14 hR.1 rfl ?_
  refine z_iconst 1 dX1_add_17 (by decide) ?_
  refine z_iadd dX1_add_18 ?_
  refine yc_putI fX1_15 dX1_add_19 hR.1 rfl ?_
  exact yc_vret dX1_add_22 rfl rfl
set_option maxRecDepth 100000 in
theorem cc_settle {m : zmem} {p : Nat} (hP : isParc p) : E0c MX3_settle 2 [.ref p] m (ssettle m p) := by
  refine E0c.of (by decide) (Nat.le_of_ble_eq_true rfl) ?_
  show Z _ 0 [(0, .ref p)] _ _ _ _
  refine z_aload_n 0 dX3_settle_0 rfl rfl ?_
  refine yc_getI fX3_18 dX3_settle_1 hP.1 rfl ?_
  refine z_if_ne 18 dX3_settle_4 (by decide) (fun c_1 => ?_) (fun c_1 => ?_)
  · refine z_iconst 0 dX3_settle_18 (by decide) ?_
    refine z_istore_n (lv' := [(1, .int 0), (0, .ref p)]) dX3_settle_19 rfl (Nat.le_of_ble_eq_true rfl) rfl ?_
    have loop20 : ∀ (n : Nat) (k : Nat) (mm : zmem), k + n = 7 → ssettle m p = ssettle0 p (sfold (sset p) n k mm) → Z (zMB (Q0c (ssettle m p)) 2 MX3_settle) 20 [(0, .ref p), (1, .int (Int32.ofNat k))] [] (hpC mm) 0 0 := by
      intro n
      induction n with
      | zero =>
        intro k mm hk hr
        refine z_iload_n 1 dX3_settle_20 rfl rfl ?_
        refine z_bipush 7 dX3_settle_21 (by decide) ?_
        refine z_icmp_ge 84 dX3_settle_23 (by decide) (fun c_2 => ?_) (fun c_2 => ?_)
        · refine z_aload_n 0 dX3_settle_84 rfl rfl ?_
          refine z_iconst 0 dX3_settle_85 (by decide) ?_
          refine yc_putI fX3_52 dX3_settle_86 hP.1 rfl ?_
          refine z_aload_n 0 dX3_settle_89 rfl rfl ?_
          refine z_iconst 0 dX3_settle_90 (by decide) ?_
          refine yc_putI fX3_55 dX3_settle_91 hP.1 rfl ?_
          exact yc_vret dX3_settle_94 rfl (by rw [hr]; rfl)
        · exact (dz rfl (b := 7) (N := 7) rfl (by omega) (by omega) c_2).elim
      | succ n ih20 =>
        intro k mm hk hr
        refine z_iload_n 1 dX3_settle_20 rfl rfl ?_
        refine z_bipush 7 dX3_settle_21 (by decide) ?_
        refine z_icmp_ge 84 dX3_settle_23 (by decide) (fun c_3 => ?_) (fun c_3 => ?_)
        · exact (ds rfl (b := 7) (N := 7) rfl (by omega) (by omega) c_3).elim
        · refine z_aload_n 0 dX3_settle_26 rfl rfl ?_
          refine yc_getR fX3_37 dX3_settle_27 hP.1 rfl ?_
          refine z_iload_n 1 dX3_settle_30 rfl rfl ?_
          refine z_iconst 0 dX3_settle_31 (by decide) ?_
          refine yc_S0 [_, _, _] _ kX3_110 (cc_put hP.2.2.2.2.2.1 (by decide)) dX3_settle_32 rfl rfl (Nat.le_of_ble_eq_true rfl) (Nat.le_of_ble_eq_true rfl) ⟨Nat.zero_le _, Nat.zero_le _⟩ ?_
          refine z_aload_n 0 dX3_settle_35 rfl rfl ?_
          refine yc_getR fX3_40 dX3_settle_36 hP.1 rfl ?_
          refine z_iload_n 1 dX3_settle_39 rfl rfl ?_
          refine z_bipush 9 dX3_settle_40 (by decide) ?_
          refine yc_S0 [_, _, _] _ kX3_110 (cc_put hP.2.2.2.2.2.2.1 (by decide)) dX3_settle_42 rfl rfl (Nat.le_of_ble_eq_true rfl) (Nat.le_of_ble_eq_true rfl) ⟨Nat.zero_le _, Nat.zero_le _⟩ ?_
          refine z_aload_n 0 dX3_settle_45 rfl rfl ?_
          refine yc_getR fX3_43 dX3_settle_46 hP.1 rfl ?_
          refine z_iload_n 1 dX3_settle_49 rfl rfl ?_
          refine z_iconst (-1) dX3_settle_50 (by decide) ?_
          refine yc_S0 [_, _, _] _ kX3_110 (cc_put hP.2.2.2.2.2.2.2.1 (by decide)) dX3_settle_51 rfl rfl (Nat.le_of_ble_eq_true rfl) (Nat.le_of_ble_eq_true rfl) ⟨Nat.zero_le _, Nat.zero_le _⟩ ?_
          refine z_aload_n 0 dX3_settle_54 rfl rfl ?_
          refine yc_getR fX3_46 dX3_settle_55 hP.1 rfl ?_
          refine z_iload_n 1 dX3_settle_58 rfl rfl ?_
          refine z_iload_n 1 dX3_settle_59 rfl rfl ?_
          refine yc_S0 [_, _, _] _ kX3_110 (cc_put hP.2.2.2.2.2.2.2.2.1 (by decide)) dX3_settle_60 rfl rfl (Nat.le_of_ble_eq_true rfl) (Nat.le_of_ble_eq_true rfl) ⟨Nat.zero_le _, Nat.zero_le _⟩ ?_
          refine z_aload_n 0 dX3_settle_63 rfl rfl ?_
          refine yc_getR fX3_49 dX3_settle_64 hP.1 rfl ?_
          refine z_iload_n 1 dX3_settle_67 rfl rfl ?_
          refine z_aload_n 0 dX3_settle_68 rfl rfl ?_
          refine yc_getI fX3_15 dX3_settle_69 hP.1 rfl ?_
          refine yc_Si [_] _ kX3_114 cc_allBelow dX3_settle_72 rfl rfl (Nat.le_of_ble_eq_true rfl) (Nat.le_of_ble_eq_true rfl) ⟨Nat.zero_le _, Nat.zero_le _⟩ ?_
          refine yc_S0 [_, _, _] _ kX3_110 (cc_put hP.2.2.2.2.2.2.2.2.2 (by decide)) dX3_settle_75 rfl rfl (Nat.le_of_ble_eq_true rfl) (Nat.le_of_ble_eq_true rfl) ⟨Nat.zero_le _, Nat.zero_le _⟩ ?_
          obtain ⟨v_4, e_4⟩ : ∃ y : Int32, y = (Int32.ofNat k) + 1 := ⟨_, rfl⟩
          refine z_iinc (lv' := [(1, .int v_4), (0, .ref p)]) 1 v_4 dX3_settle_78 rfl (by rw [e_4]; rfl) (Nat.le_of_ble_eq_true rfl) rfl ?_
          refine z_goto 20 dX3_settle_81 (by decide) ?_
          obtain rfl : v_4 = Int32.ofNat (k + 1) := e_4.trans (nat_succ k)
          refine z_sub [1,0] rfl ?_
          exact ih20 (k + 1) _ (by omega) (hr.trans rfl)
    refine z_sub [1,0] rfl ?_
    exact loop20 7 0 _ (by omega) (by simp [ssettle, ssun, c_1])
  · refine z_aload_n 0 dX3_settle_7 rfl rfl ?_
    refine z_bipush 6 dX3_settle_8 (by decide) ?_
    refine yc_putI fX3_18 dX3_settle_10 hP.1 rfl ?_
    refine z_aload_n 0 dX3_settle_13 rfl rfl ?_
    refine z_iconst 2 dX3_settle_14 (by decide) ?_
    refine yc_putI fX3_21 dX3_settle_15 hP.1 rfl ?_
    refine z_iconst 0 dX3_settle_18 (by decide) ?_
    refine z_istore_n (lv' := [(1, .int 0), (0, .ref p)]) dX3_settle_19 rfl (Nat.le_of_ble_eq_true rfl) rfl ?_
    have loop20 : ∀ (n : Nat) (k : Nat) (mm : zmem), k + n = 7 → ssettle m p = ssettle0 p (sfold (sset p) n k mm) → Z (zMB (Q0c (ssettle m p)) 2 MX3_settle) 20 [(0, .ref p), (1, .int (Int32.ofNat k))] [] (hpC mm) 0 0 := by
      intro n
      induction n with
      | zero =>
        intro k mm hk hr
        refine z_iload_n 1 dX3_settle_20 rfl rfl ?_
        refine z_bipush 7 dX3_settle_21 (by decide) ?_
        refine z_icmp_ge 84 dX3_settle_23 (by decide) (fun c_5 => ?_) (fun c_5 => ?_)
        · refine z_aload_n 0 dX3_settle_84 rfl rfl ?_
          refine z_iconst 0 dX3_settle_85 (by decide) ?_
          refine yc_putI fX3_52 dX3_settle_86 hP.1 rfl ?_
          refine z_aload_n 0 dX3_settle_89 rfl rfl ?_
          refine z_iconst 0 dX3_settle_90 (by decide) ?_
          refine yc_putI fX3_55 dX3_settle_91 hP.1 rfl ?_
          exact yc_vret dX3_settle_94 rfl (by rw [hr]; rfl)
        · exact (dz rfl (b := 7) (N := 7) rfl (by omega) (by omega) c_5).elim
      | succ n ih20 =>
        intro k mm hk hr
        refine z_iload_n 1 dX3_settle_20 rfl rfl ?_
        refine z_bipush 7 dX3_settle_21 (by decide) ?_
        refine z_icmp_ge 84 dX3_settle_23 (by decide) (fun c_6 => ?_) (fun c_6 => ?_)
        · exact (ds rfl (b := 7) (N := 7) rfl (by omega) (by omega) c_6).elim
        · refine z_aload_n 0 dX3_settle_26 rfl rfl ?_
          refine yc_getR fX3_37 dX3_settle_27 hP.1 rfl ?_
          refine z_iload_n 1 dX3_settle_30 rfl rfl ?_
          refine z_iconst 0 dX3_settle_31 (by decide) ?_
          refine yc_S0 [_, _, _] _ kX3_110 (cc_put hP.2.2.2.2.2.1 (by decide)) dX3_settle_32 rfl rfl (Nat.le_of_ble_eq_true rfl) (Nat.le_of_ble_eq_true rfl) ⟨Nat.zero_le _, Nat.zero_le _⟩ ?_
          refine z_aload_n 0 dX3_settle_35 rfl rfl ?_
          refine yc_getR fX3_40 dX3_settle_36 hP.1 rfl ?_
          refine z_iload_n 1 dX3_settle_39 rfl rfl ?_
          refine z_bipush 9 dX3_settle_40 (by decide) ?_
          refine yc_S0 [_, _, _] _ kX3_110 (cc_put hP.2.2.2.2.2.2.1 (by decide)) dX3_settle_42 rfl rfl (Nat.le_of_ble_eq_true rfl) (Nat.le_of_ble_eq_true rfl) ⟨Nat.zero_le _, Nat.zero_le _⟩ ?_
          refine z_aload_n 0 dX3_settle_45 rfl rfl ?_
          refine yc_getR fX3_43 dX3_settle_46 hP.1 rfl ?_
          refine z_iload_n 1 dX3_settle_49 rfl rfl ?_
          refine z_iconst (-1) dX3_settle_50 (by decide) ?_
          refine yc_S0 [_, _, _] _ kX3_110 (cc_put hP.2.2.2.2.2.2.2.1 (by decide)) dX3_settle_51 rfl rfl (Nat.le_of_ble_eq_true rfl) (Nat.le_of_ble_eq_true rfl) ⟨Nat.zero_le _, Nat.zero_le _⟩ ?_
          refine z_aload_n 0 dX3_settle_54 rfl rfl ?_
          refine yc_getR fX3_46 dX3_settle_55 hP.1 rfl ?_
          refine z_iload_n 1 dX3_settle_58 rfl rfl ?_
          refine z_iload_n 1 dX3_settle_59 rfl rfl ?_
          refine yc_S0 [_, _, _] _ kX3_110 (cc_put hP.2.2.2.2.2.2.2.2.1 (by decide)) dX3_settle_60 rfl rfl (Nat.le_of_ble_eq_true rfl) (Nat.le_of_ble_eq_true rfl) ⟨Nat.zero_le _, Nat.zero_le _⟩ ?_
          refine z_aload_n 0 dX3_settle_63 rfl rfl ?_
          refine yc_getR fX3_49 dX3_settle_64 hP.1 rfl ?_
          refine z_iload_n 1 dX3_settle_67 rfl rfl ?_
          refine z_aload_n 0 dX3_settle_68 rfl rfl ?_
          refine yc_getI fX3_15 dX3_settle_69 hP.1 rfl ?_
          refine yc_Si [_] _ kX3_114 cc_allBelow dX3_settle_72 rfl rfl (Nat.le_of_ble_eq_true rfl) (Nat.le_of_ble_eq_true rfl) ⟨Nat.zero_le _, Nat.zero_le _⟩ ?_
          refine yc_S0 [_, _, _] _ kX3_110 (cc_put hP.2.2.2.2.2.2.2.2.2 (by decide)) dX3_settle_75 rfl rfl (Nat.le_of_ble_eq_true rfl) (Nat.le_of_ble_eq_true rfl) ⟨Nat.zero_le _, Nat.zero_le _⟩ ?_
          obtain ⟨v_7, e_7⟩ : ∃ y : Int32, y = (Int32.ofNat k) + 1 := ⟨_, rfl⟩
          refine z_iinc (lv' := [(1, .int v_7), (0, .ref p)]) 1 v_7 dX3_settle_78 rfl (by rw [e_7]; rfl) (Nat.le_of_ble_eq_true rfl) rfl ?_
          refine z_goto 20 dX3_settle_81 (by decide) ?_
          obtain rfl : v_7 = Int32.ofNat (k + 1) := e_7.trans (nat_succ k)
          refine z_sub [1,0] rfl ?_
          exact ih20 (k + 1) _ (by omega) (hr.trans rfl)
    refine z_sub [1,0] rfl ?_
    exact loop20 7 0 _ (by omega) (by simp [ssettle, ssun, c_1])
/-! new cells behind a world h0 -/
section ZN
variable {B : zB} {pc : Nat} {lv : zL} {st : List Value} {h0 t : zH} {x : zE} {ce sl q : Nat}
set_option maxRecDepth 100000 in
theorem n_at0 (hq : h0.length = q) : (h0 ++ x :: t)[q]? = some x := by subst hq; simp
set_option maxRecDepth 100000 in
theorem n_set0 (hq : h0.length = q) (y : zE) : (h0 ++ x :: t).set q y = h0 ++ y :: t := by subst hq; simp
set_option maxRecDepth 100000 in
theorem n_atj {j : Nat} {y : zE} (hq : h0.length = q) (hj : t[j]? = some y) : (h0 ++ x :: t)[q + 1 + j]? = some y := by
  subst hq
  rw [List.getElem?_append_right (by omega), show h0.length + 1 + j - h0.length = j + 1 by omega]
  exact hj
set_option maxRecDepth 100000 in
theorem n_setj {j : Nat} (hq : h0.length = q) (y : zE) : (h0 ++ x :: t).set (q + 1 + j) y = h0 ++ x :: t.set j y := by
  subst hq
  rw [List.set_append_right _ _ (by omega), show h0.length + 1 + j - h0.length = j + 1 by omega]
  rfl
set_option maxRecDepth 100000 in
theorem n_put {idx ci k : Nat} {ty : FieldType} {fs fs' : List Value} {v : Value} (hf : zFl (zy (zbM B)).cls idx ci k ty false) (hn : ∀ g, narrow ty (zv g v) = zv g v) (hfit : ∀ g, fits ty (zv g v) = true) (hlen : k < fs.length) (hd : decode (zbc B) pc = .ok (.putfield idx, 3)) (hq : h0.length = q) (he : fs' = fs.set k v) (kk : Z B (pc + 3) lv st (h0 ++ .inr (ci, fs') :: t) ce sl) : Z B pc lv (v :: .ref q :: st) (h0 ++ .inr (ci, fs) :: t) ce sl := by
  subst he
  refine z_putf hf hn hfit hlen hd (n_at0 hq) ?_
  rw [n_set0 hq]
  exact kk
set_option maxRecDepth 100000 in
theorem n_putF {idx ci k : Nat} {ty : FieldType} {fs fs' : List Value} {v : Value} (hf : zFl (zy (zbM B)).cls idx ci k ty true) (hcl : ∀ C T N, vwCl[ci]? = some (C, T, N) → C = (zy (zbM B)).cls) (hnest : ∀ C T N, vwCl[ci]? = some (C, T, N) → Cond.fieldLink (zy (zbM B)).cls idx (T k).1 (T k).2.1 (T k).2.2.1 ∈ zT) (hinit : (zy (zbM B)).name = "<init>") (hn : ∀ g, narrow ty (zv g v) = zv g v) (hfit : ∀ g, fits ty (zv g v) = true) (hlen : k < fs.length) (hd : decode (zbc B) pc = .ok (.putfield idx, 3)) (hq : h0.length = q) (he : fs' = fs.set k v) (kk : Z B (pc + 3) lv st (h0 ++ .inr (ci, fs') :: t) ce sl) : Z B pc lv (v :: .ref q :: st) (h0 ++ .inr (ci, fs) :: t) ce sl := by
  subst he
  refine z_putff hf hcl hnest hinit hn hfit hlen hd (n_at0 hq) ?_
  rw [n_set0 hq]
  exact kk
set_option maxRecDepth 100000 in
theorem n_get {idx ci k : Nat} {ty : FieldType} {fin : Bool} {fs : List Value} {v : Value} (hf : zFl (zy (zbM B)).cls idx ci k ty fin) (hd : decode (zbc B) pc = .ok (.getfield idx, 3)) (hq : h0.length = q) (hv : fs[k]? = some v) (kk : Z B (pc + 3) lv (v :: st) (h0 ++ .inr (ci, fs) :: t) ce sl) : Z B pc lv (.ref q :: st) (h0 ++ .inr (ci, fs) :: t) ce sl := z_getf hf hd (n_at0 hq) hv kk
set_option maxRecDepth 100000 in
theorem n_ints {n : Int32} (N : Nat) {t' : zH} {qq : Nat} (hn : ¬ n < 0) (hN : n.toNatClampNeg = N) (hby : N * componentBytes .int ≤ 536870912) (hq : h0.length = q) (hl : q + 100 < zE0) (htl : t.length ≤ 90) (hqq : qq = q + 1 + t.length) (ht : t' = t ++ [.inl (.int, N, .inl (fun _ => 0))]) (hce : ce + 1 ≤ B.2.2.1) (hsl : sl + N ≤ B.2.2.2.1) (hd : decode (zbc B) pc = .ok (.newarray .int, 2)) (kk : Z B (pc + 2) lv (.ref qq :: st) (h0 ++ x :: t') (ce + 1) (sl + N)) : Z B pc lv (.int n :: st) (h0 ++ x :: t) ce sl := by
  have e : (h0 ++ x :: t).length = q + 1 + t.length := by simp [hq]; omega
  refine z_newa (atype := .int) (x := (N, .inl (fun _ => 0))) zh_int (fun _ => rfl) (fun _ _ h => h) hn hN hby (by omega) hce hsl hd ?_
  subst ht; subst hqq
  rw [e, List.append_assoc]
  exact kk
set_option maxRecDepth 100000 in
theorem n_bytes {n : Int32} (N : Nat) {t' : zH} {qq : Nat} (hn : ¬ n < 0) (hN : n.toNatClampNeg = N) (hby : N * componentBytes .byte ≤ 536870912) (hq : h0.length = q) (hl : q + 100 < zE0) (htl : t.length ≤ 90) (hqq : qq = q + 1 + t.length) (ht : t' = t ++ [.inl (.byte, N, .inl (fun _ => 0))]) (hce : ce + 1 ≤ B.2.2.1) (hsl : sl + N ≤ B.2.2.2.1) (hd : decode (zbc B) pc = .ok (.newarray .byte, 2)) (kk : Z B (pc + 2) lv (.ref qq :: st) (h0 ++ x :: t') (ce + 1) (sl + N)) : Z B pc lv (.int n :: st) (h0 ++ x :: t) ce sl := by
  have e : (h0 ++ x :: t).length = q + 1 + t.length := by simp [hq]; omega
  refine z_newa (atype := .byte) (x := (N, .inl (fun _ => 0))) zh_byte (fun _ => rfl) (fun _ _ h => h) hn hN hby (by omega) hce hsl hd ?_
  subst ht; subst hqq
  rw [e, List.append_assoc]
  exact kk
set_option maxRecDepth 100000 in
theorem n_bools {n : Int32} (N : Nat) {t' : zH} {qq : Nat} (hn : ¬ n < 0) (hN : n.toNatClampNeg = N) (hby : N * componentBytes .boolean ≤ 536870912) (hq : h0.length = q) (hl : q + 100 < zE0) (htl : t.length ≤ 90) (hqq : qq = q + 1 + t.length) (ht : t' = t ++ [.inl (.boolean, N, .inl (fun _ => 0))]) (hce : ce + 1 ≤ B.2.2.1) (hsl : sl + N ≤ B.2.2.2.1) (hd : decode (zbc B) pc = .ok (.newarray .boolean, 2)) (kk : Z B (pc + 2) lv (.ref qq :: st) (h0 ++ x :: t') (ce + 1) (sl + N)) : Z B pc lv (.int n :: st) (h0 ++ x :: t) ce sl := by
  have e : (h0 ++ x :: t).length = q + 1 + t.length := by simp [hq]; omega
  refine z_newa (atype := .boolean) (x := (N, .inl (fun _ => 0))) zh_boolean (fun _ => rfl) (fun _ _ h => h) hn hN hby (by omega) hce hsl hd ?_
  subst ht; subst hqq
  rw [e, List.append_assoc]
  exact kk
set_option maxRecDepth 100000 in
theorem n_iast {j n : Nat} {f : Nat → Int32} {i v : Int32} {t' : zH} {qq : Nat} (hd : decode (zbc B) pc = .ok (.iastore, 1)) (hq : h0.length = q) (hqq : qq = q + 1 + j) (hj : t[j]? = some (.inl (.int, n, .inl f))) (hin : vp_in i n) (ht : t' = t.set j (.inl (.int, n, .inl (upd f i.toNatClampNeg v)))) (kk : Z B (pc + 1) lv st (h0 ++ x :: t') ce sl) : Z B pc lv (.int v :: .int i :: .ref qq :: st) (h0 ++ x :: t) ce sl := by
  subst hqq; subst ht
  refine z_iast hd (n_atj hq hj) hin ?_
  rw [n_setj hq]
  exact kk
set_option maxRecDepth 100000 in
theorem n_heap {h h' : zH} (e : h = h') (k : Z B pc lv st h' ce sl) : Z B pc lv st h ce sl := by subst e; exact k
set_option maxRecDepth 100000 in
/-- a child, made and initialised -/
theorem n_new {Mj : zM} {d mc ms idx i2 ci N : Nat} {fs : List Value} {t1 : zH} {qq : Nat} (hw : zNw (zy (zbM B)).cls idx ci N fs) (hk : zCallI (zy (zbM B)).cls i2 Mj 0) (hq : h0.length = q) (hl : q + 100 < zE0) (htl : t.length ≤ 90) (hqq : qq = q + 1 + t.length) (hE : ∀ h1 : zH, h1.length = qq → Ev Mj d mc ms [.ref qq] (h1 ++ [.inr (ci, fs)]) (fun o h => o = none ∧ h = h1 ++ t1)) (hd : decode (zbc B) pc = .ok (.new idx, 3)) (hd2 : decode (zbc B) (pc + 3) = .ok (.dup, 1)) (hd3 : decode (zbc B) (pc + 4) = .ok (.invokespecial i2, 3)) (hst : (st.map fun v => v.category).sum ≤ 7) (hD : d + 1 ≤ zbD B) (hce : ce + 1 + mc ≤ B.2.2.1) (hsl : sl + N + ms ≤ B.2.2.2.1) (kk : Z B (pc + 7) lv (.ref qq :: st) (h0 ++ x :: (t ++ t1)) (ce + 1 + mc) (sl + N + ms)) : Z B pc lv st (h0 ++ x :: t) ce sl := by
  have e : (h0 ++ x :: t).length = q + 1 + t.length := by simp [hq]; omega
  refine z_newo hw (by omega) (by omega) (by omega) hd ?_
  rw [e, ← hqq]
  refine z_dup hd2 rfl ?_
  refine z_callI [] hk (hE (h0 ++ x :: t) (by rw [e, hqq])) hd3 rfl ?_ hD hce hsl (fun o h1 hqr => ?_)
  · show 1 + (st.map fun v => v.category).sum ≤ 8
    omega
  · obtain ⟨e1, e2⟩ := hqr
    subst e1; subst e2
    rw [List.append_assoc]
    exact kk
end ZN
set_option maxRecDepth 100000 in
def n0b (q : Nat) : zH := [.inr (0, [.ref (q + 1), .ref (q + 2), .int 0]), .inl (.int, 20, .inl (fun _ => 0)), .inl (.int, 20, .inl (fun _ => 0))]
set_option maxRecDepth 100000 in
theorem cn0b {h0 : zH} {q : Nat} (hq : h0.length = q) (hl : q + 100 < zE0) : Ev MX0_init 1 2 40 [.ref q] (h0 ++ [.inr (0, [.null, .null, .int 0])]) (fun o h => o = none ∧ h = h0 ++ n0b q) := by
  refine Ev.of (by decide) (Nat.le_of_ble_eq_true rfl) ?_
  show Z _ 0 [(0, .ref q)] _ _ _ _
  refine z_aload_n 0 dX0_init_0 rfl rfl ?_
  refine z_objInit oX0_3 zh_oi zh_oc dX0_init_1 (Nat.le_of_ble_eq_true rfl) (Nat.le_of_ble_eq_true rfl) ?_
  refine z_aload_n 0 dX0_init_4 rfl rfl ?_
  refine z_bipush 20 dX0_init_5 (by decide) ?_
  refine n_ints 20 (t' := [.inl (.int, 20, .inl (fun _ => 0))]) (qq := q + 1) (by decide) (by decide) (by decide) hq hl (Nat.le_of_ble_eq_true rfl) rfl rfl (Nat.le_of_ble_eq_true rfl) (Nat.le_of_ble_eq_true rfl) dX0_init_7 ?_
  refine n_putF (fs' := [.ref (q + 1), .null, .int 0]) fX0_9 (fun C T N h => by cases h; rfl) (fun C T N h => by cases h; exact (show Cond.fieldLink RX0 9 RX0 "who" "[I" ∈ zT from (zt1 (i := 150) (by decide +kernel) rfl))) rfl (fun _ => rfl) (fun _ => rfl) (Nat.le_of_ble_eq_true rfl) dX0_init_9 hq rfl ?_
  refine z_aload_n 0 dX0_init_12 rfl rfl ?_
  refine z_bipush 20 dX0_init_13 (by decide) ?_
  refine n_ints 20 (t' := [.inl (.int, 20, .inl (fun _ => 0)), .inl (.int, 20, .inl (fun _ => 0))]) (qq := q + 2) (by decide) (by decide) (by decide) hq hl (Nat.le_of_ble_eq_true rfl) rfl rfl (Nat.le_of_ble_eq_true rfl) (Nat.le_of_ble_eq_true rfl) dX0_init_15 ?_
  refine n_putF (fs' := [.ref (q + 1), .ref (q + 2), .int 0]) fX0_15 (fun C T N h => by cases h; rfl) (fun C T N h => by cases h; exact (show Cond.fieldLink RX0 15 RX0 "where" "[I" ∈ zT from (zt1 (i := 152) (by decide +kernel) rfl))) rfl (fun _ => rfl) (fun _ => rfl) (Nat.le_of_ble_eq_true rfl) dX0_init_17 hq rfl ?_
  refine z_aload_n 0 dX0_init_20 rfl rfl ?_
  refine z_iconst 0 dX0_init_21 (by decide) ?_
  refine n_put (fs' := [.ref (q + 1), .ref (q + 2), .int 0]) fX0_18 (fun _ => rfl) (fun _ => rfl) (Nat.le_of_ble_eq_true rfl) dX0_init_22 hq rfl ?_
  exact z_vret dX0_init_25 rfl (Nat.le_of_ble_eq_true rfl) (Nat.le_of_ble_eq_true rfl) ⟨rfl, rfl⟩
set_option maxRecDepth 100000 in
def n1c (q : Nat) : zH := [.inr (1, [.ref (q + 1), .int 0]), .inl (.int, 4, .inl (fun _ => 0))]
set_option maxRecDepth 100000 in
theorem cn1c {h0 : zH} {q : Nat} (hq : h0.length = q) (hl : q + 100 < zE0) : Ev MX1_init 1 1 4 [.ref q] (h0 ++ [.inr (1, [.null, .int 0])]) (fun o h => o = none ∧ h = h0 ++ n1c q) := by
  refine Ev.of (by decide) (Nat.le_of_ble_eq_true rfl) ?_
  show Z _ 0 [(0, .ref q)] _ _ _ _
  refine z_aload_n 0 dX1_init_0 rfl rfl ?_
  refine z_objInit oX1_3 zh_oi zh_oc dX1_init_1 (Nat.le_of_ble_eq_true rfl) (Nat.le_of_ble_eq_true rfl) ?_
  refine z_aload_n 0 dX1_init_4 rfl rfl ?_
  refine z_iconst 4 dX1_init_5 (by decide) ?_
  refine n_ints 4 (t' := [.inl (.int, 4, .inl (fun _ => 0))]) (qq := q + 1) (by decide) (by decide) (by decide) hq hl (Nat.le_of_ble_eq_true rfl) rfl rfl (Nat.le_of_ble_eq_true rfl) (Nat.le_of_ble_eq_true rfl) dX1_init_6 ?_
  refine n_putF (fs' := [.ref (q + 1), .int 0]) fX1_9 (fun C T N h => by cases h; rfl) (fun C T N h => by cases h; exact (show Cond.fieldLink RX1 9 RX1 "clauses" "[I" ∈ zT from (zt1 (i := 57) (by decide +kernel) rfl))) rfl (fun _ => rfl) (fun _ => rfl) (Nat.le_of_ble_eq_true rfl) dX1_init_8 hq rfl ?_
  refine z_aload_n 0 dX1_init_11 rfl rfl ?_
  refine z_iconst 0 dX1_init_12 (by decide) ?_
  refine n_put (fs' := [.ref (q + 1), .int 0]) fX1_15 (fun _ => rfl) (fun _ => rfl) (Nat.le_of_ble_eq_true rfl) dX1_init_13 hq rfl ?_
  exact z_vret dX1_init_16 rfl (Nat.le_of_ble_eq_true rfl) (Nat.le_of_ble_eq_true rfl) ⟨rfl, rfl⟩
set_option maxRecDepth 100000 in
def n2n (q : Nat) : zH := [.inr (2, [.ref (q + 1)]), .inl (.int, 128, .inl (fun _ => 0))]
set_option maxRecDepth 100000 in
theorem cn2n {h0 : zH} {q : Nat} (hq : h0.length = q) (hl : q + 100 < zE0) : Ev MX2_init 1 1 128 [.ref q] (h0 ++ [.inr (2, [.null])]) (fun o h => o = none ∧ h = h0 ++ n2n q) := by
  refine Ev.of (by decide) (Nat.le_of_ble_eq_true rfl) ?_
  show Z _ 0 [(0, .ref q)] _ _ _ _
  refine z_aload_n 0 dX2_init_0 rfl rfl ?_
  refine z_objInit oX2_3 zh_oi zh_oc dX2_init_1 (Nat.le_of_ble_eq_true rfl) (Nat.le_of_ble_eq_true rfl) ?_
  refine z_aload_n 0 dX2_init_4 rfl rfl ?_
  refine z_sipush 128 dX2_init_5 (by decide) ?_
  refine n_ints 128 (t' := [.inl (.int, 128, .inl (fun _ => 0))]) (qq := q + 1) (by decide) (by decide) (by decide) hq hl (Nat.le_of_ble_eq_true rfl) rfl rfl (Nat.le_of_ble_eq_true rfl) (Nat.le_of_ble_eq_true rfl) dX2_init_8 ?_
  refine n_putF (fs' := [.ref (q + 1)]) fX2_9 (fun C T N h => by cases h; rfl) (fun C T N h => by cases h; exact (show Cond.fieldLink RX2 9 RX2 "tally" "[I" ∈ zT from (zt1 (i := 197) (by decide +kernel) rfl))) rfl (fun _ => rfl) (fun _ => rfl) (Nat.le_of_ble_eq_true rfl) dX2_init_10 hq rfl ?_
  exact z_vret dX2_init_13 rfl (Nat.le_of_ble_eq_true rfl) (Nat.le_of_ble_eq_true rfl) ⟨rfl, rfl⟩
set_option maxRecDepth 100000 in
def n3p (q : Nat) : zH := [.inr (3, [.int 0, .int 0, .int 0, .int 0, .ref (q + 1), .ref (q + 2), .ref (q + 3), .ref (q + 4), .ref (q + 5), .ref (q + 6), .ref (q + 7), .ref (q + 8), .ref (q + 9), .int 0, .int 0, .int 0]), .inl (.int, 8, .inl (fun _ => 0)), .inl (.int, 7, .inl (fun _ => 0)), .inl (.int, 7, .inl (fun _ => 0)), .inl (.int, 7, .inl (fun _ => 0)), .inl (.int, 7, .inl (fun _ => 0)), .inl (.int, 7, .inl (fun _ => 0)), .inl (.int, 7, .inl (fun _ => 0)), .inl (.int, 7, .inl (fun _ => 0)), .inl (.int, 7, .inl (fun _ => 0))]
set_option maxRecDepth 100000 in
theorem cn3p {h0 : zH} {q : Nat} (hq : h0.length = q) (hl : q + 100 < zE0) : Ev MX3_init 1 9 64 [.ref q] (h0 ++ [.inr (3, [.int 0, .int 0, .int 0, .int 0, .null, .null, .null, .null, .null, .null, .null, .null, .null, .int 0, .int 0, .int 0])]) (fun o h => o = none ∧ h = h0 ++ n3p q) := by
  refine Ev.of (by decide) (Nat.le_of_ble_eq_true rfl) ?_
  show Z _ 0 [(0, .ref q)] _ _ _ _
  refine z_aload_n 0 dX3_init_0 rfl rfl ?_
  refine z_objInit oX3_3 zh_oi zh_oc dX3_init_1 (Nat.le_of_ble_eq_true rfl) (Nat.le_of_ble_eq_true rfl) ?_
  refine z_aload_n 0 dX3_init_4 rfl rfl ?_
  refine z_iconst 0 dX3_init_5 (by decide) ?_
  refine n_put (fs' := [.int 0, .int 0, .int 0, .int 0, .null, .null, .null, .null, .null, .null, .null, .null, .null, .int 0, .int 0, .int 0]) fX3_9 (fun _ => rfl) (fun _ => rfl) (Nat.le_of_ble_eq_true rfl) dX3_init_6 hq rfl ?_
  refine z_aload_n 0 dX3_init_9 rfl rfl ?_
  refine z_iconst 0 dX3_init_10 (by decide) ?_
  refine n_put (fs' := [.int 0, .int 0, .int 0, .int 0, .null, .null, .null, .null, .null, .null, .null, .null, .null, .int 0, .int 0, .int 0]) fX3_15 (fun _ => rfl) (fun _ => rfl) (Nat.le_of_ble_eq_true rfl) dX3_init_11 hq rfl ?_
  refine z_aload_n 0 dX3_init_14 rfl rfl ?_
  refine z_iconst 0 dX3_init_15 (by decide) ?_
  refine n_put (fs' := [.int 0, .int 0, .int 0, .int 0, .null, .null, .null, .null, .null, .null, .null, .null, .null, .int 0, .int 0, .int 0]) fX3_18 (fun _ => rfl) (fun _ => rfl) (Nat.le_of_ble_eq_true rfl) dX3_init_16 hq rfl ?_
  refine z_aload_n 0 dX3_init_19 rfl rfl ?_
  refine z_iconst 0 dX3_init_20 (by decide) ?_
  refine n_put (fs' := [.int 0, .int 0, .int 0, .int 0, .null, .null, .null, .null, .null, .null, .null, .null, .null, .int 0, .int 0, .int 0]) fX3_21 (fun _ => rfl) (fun _ => rfl) (Nat.le_of_ble_eq_true rfl) dX3_init_21 hq rfl ?_
  refine z_aload_n 0 dX3_init_24 rfl rfl ?_
  refine z_bipush 8 dX3_init_25 (by decide) ?_
  refine n_ints 8 (t' := [.inl (.int, 8, .inl (fun _ => 0))]) (qq := q + 1) (by decide) (by decide) (by decide) hq hl (Nat.le_of_ble_eq_true rfl) rfl rfl (Nat.le_of_ble_eq_true rfl) (Nat.le_of_ble_eq_true rfl) dX3_init_27 ?_
  refine n_putF (fs' := [.int 0, .int 0, .int 0, .int 0, .ref (q + 1), .null, .null, .null, .null, .null, .null, .null, .null, .int 0, .int 0, .int 0]) fX3_24 (fun C T N h => by cases h; rfl) (fun C T N h => by cases h; exact (show Cond.fieldLink RX3 24 RX3 "frost" "[I" ∈ zT from (zt1 (i := 83) (by decide +kernel) rfl))) rfl (fun _ => rfl) (fun _ => rfl) (Nat.le_of_ble_eq_true rfl) dX3_init_29 hq rfl ?_
  refine z_aload_n 0 dX3_init_32 rfl rfl ?_
  refine z_bipush 7 dX3_init_33 (by decide) ?_
  refine n_ints 7 (t' := [.inl (.int, 8, .inl (fun _ => 0)), .inl (.int, 7, .inl (fun _ => 0))]) (qq := q + 2) (by decide) (by decide) (by decide) hq hl (Nat.le_of_ble_eq_true rfl) rfl rfl (Nat.le_of_ble_eq_true rfl) (Nat.le_of_ble_eq_true rfl) dX3_init_35 ?_
  refine n_putF (fs' := [.int 0, .int 0, .int 0, .int 0, .ref (q + 1), .ref (q + 2), .null, .null, .null, .null, .null, .null, .null, .int 0, .int 0, .int 0]) fX3_28 (fun C T N h => by cases h; rfl) (fun C T N h => by cases h; exact (show Cond.fieldLink RX3 28 RX3 "rank" "[I" ∈ zT from (zt1 (i := 85) (by decide +kernel) rfl))) rfl (fun _ => rfl) (fun _ => rfl) (Nat.le_of_ble_eq_true rfl) dX3_init_37 hq rfl ?_
  refine z_aload_n 0 dX3_init_40 rfl rfl ?_
  refine z_bipush 7 dX3_init_41 (by decide) ?_
  refine n_ints 7 (t' := [.inl (.int, 8, .inl (fun _ => 0)), .inl (.int, 7, .inl (fun _ => 0)), .inl (.int, 7, .inl (fun _ => 0))]) (qq := q + 3) (by decide) (by decide) (by decide) hq hl (Nat.le_of_ble_eq_true rfl) rfl rfl (Nat.le_of_ble_eq_true rfl) (Nat.le_of_ble_eq_true rfl) dX3_init_43 ?_
  refine n_putF (fs' := [.int 0, .int 0, .int 0, .int 0, .ref (q + 1), .ref (q + 2), .ref (q + 3), .null, .null, .null, .null, .null, .null, .int 0, .int 0, .int 0]) fX3_31 (fun C T N h => by cases h; rfl) (fun C T N h => by cases h; exact (show Cond.fieldLink RX3 31 RX3 "waited" "[I" ∈ zT from (zt1 (i := 87) (by decide +kernel) rfl))) rfl (fun _ => rfl) (fun _ => rfl) (Nat.le_of_ble_eq_true rfl) dX3_init_45 hq rfl ?_
  refine z_aload_n 0 dX3_init_48 rfl rfl ?_
  refine z_bipush 7 dX3_init_49 (by decide) ?_
  refine n_ints 7 (t' := [.inl (.int, 8, .inl (fun _ => 0)), .inl (.int, 7, .inl (fun _ => 0)), .inl (.int, 7, .inl (fun _ => 0)), .inl (.int, 7, .inl (fun _ => 0))]) (qq := q + 4) (by decide) (by decide) (by decide) hq hl (Nat.le_of_ble_eq_true rfl) rfl rfl (Nat.le_of_ble_eq_true rfl) (Nat.le_of_ble_eq_true rfl) dX3_init_51 ?_
  refine n_putF (fs' := [.int 0, .int 0, .int 0, .int 0, .ref (q + 1), .ref (q + 2), .ref (q + 3), .ref (q + 4), .null, .null, .null, .null, .null, .int 0, .int 0, .int 0]) fX3_34 (fun C T N h => by cases h; rfl) (fun C T N h => by cases h; exact (show Cond.fieldLink RX3 34 RX3 "kin" "[I" ∈ zT from (zt1 (i := 89) (by decide +kernel) rfl))) rfl (fun _ => rfl) (fun _ => rfl) (Nat.le_of_ble_eq_true rfl) dX3_init_53 hq rfl ?_
  refine z_aload_n 0 dX3_init_56 rfl rfl ?_
  refine z_bipush 7 dX3_init_57 (by decide) ?_
  refine n_ints 7 (t' := [.inl (.int, 8, .inl (fun _ => 0)), .inl (.int, 7, .inl (fun _ => 0)), .inl (.int, 7, .inl (fun _ => 0)), .inl (.int, 7, .inl (fun _ => 0)), .inl (.int, 7, .inl (fun _ => 0))]) (qq := q + 5) (by decide) (by decide) (by decide) hq hl (Nat.le_of_ble_eq_true rfl) rfl rfl (Nat.le_of_ble_eq_true rfl) (Nat.le_of_ble_eq_true rfl) dX3_init_59 ?_
  refine n_putF (fs' := [.int 0, .int 0, .int 0, .int 0, .ref (q + 1), .ref (q + 2), .ref (q + 3), .ref (q + 4), .ref (q + 5), .null, .null, .null, .null, .int 0, .int 0, .int 0]) fX3_37 (fun C T N h => by cases h; rfl) (fun C T N h => by cases h; exact (show Cond.fieldLink RX3 37 RX3 "gifts" "[I" ∈ zT from (zt1 (i := 92) (by decide +kernel) rfl))) rfl (fun _ => rfl) (fun _ => rfl) (Nat.le_of_ble_eq_true rfl) dX3_init_61 hq rfl ?_
  refine z_aload_n 0 dX3_init_64 rfl rfl ?_
  refine z_bipush 7 dX3_init_65 (by decide) ?_
  refine n_ints 7 (t' := [.inl (.int, 8, .inl (fun _ => 0)), .inl (.int, 7, .inl (fun _ => 0)), .inl (.int, 7, .inl (fun _ => 0)), .inl (.int, 7, .inl (fun _ => 0)), .inl (.int, 7, .inl (fun _ => 0)), .inl (.int, 7, .inl (fun _ => 0))]) (qq := q + 6) (by decide) (by decide) (by decide) hq hl (Nat.le_of_ble_eq_true rfl) rfl rfl (Nat.le_of_ble_eq_true rfl) (Nat.le_of_ble_eq_true rfl) dX3_init_67 ?_
  refine n_putF (fs' := [.int 0, .int 0, .int 0, .int 0, .ref (q + 1), .ref (q + 2), .ref (q + 3), .ref (q + 4), .ref (q + 5), .ref (q + 6), .null, .null, .null, .int 0, .int 0, .int 0]) fX3_40 (fun C T N h => by cases h; rfl) (fun C T N h => by cases h; exact (show Cond.fieldLink RX3 40 RX3 "boards" "[I" ∈ zT from (zt1 (i := 94) (by decide +kernel) rfl))) rfl (fun _ => rfl) (fun _ => rfl) (Nat.le_of_ble_eq_true rfl) dX3_init_69 hq rfl ?_
  refine z_aload_n 0 dX3_init_72 rfl rfl ?_
  refine z_bipush 7 dX3_init_73 (by decide) ?_
  refine n_ints 7 (t' := [.inl (.int, 8, .inl (fun _ => 0)), .inl (.int, 7, .inl (fun _ => 0)), .inl (.int, 7, .inl (fun _ => 0)), .inl (.int, 7, .inl (fun _ => 0)), .inl (.int, 7, .inl (fun _ => 0)), .inl (.int, 7, .inl (fun _ => 0)), .inl (.int, 7, .inl (fun _ => 0))]) (qq := q + 7) (by decide) (by decide) (by decide) hq hl (Nat.le_of_ble_eq_true rfl) rfl rfl (Nat.le_of_ble_eq_true rfl) (Nat.le_of_ble_eq_true rfl) dX3_init_75 ?_
  refine n_putF (fs' := [.int 0, .int 0, .int 0, .int 0, .ref (q + 1), .ref (q + 2), .ref (q + 3), .ref (q + 4), .ref (q + 5), .ref (q + 6), .ref (q + 7), .null, .null, .int 0, .int 0, .int 0]) fX3_43 (fun C T N h => by cases h; rfl) (fun C T N h => by cases h; exact (show Cond.fieldLink RX3 43 RX3 "yardOf" "[I" ∈ zT from (zt1 (i := 96) (by decide +kernel) rfl))) rfl (fun _ => rfl) (fun _ => rfl) (Nat.le_of_ble_eq_true rfl) dX3_init_77 hq rfl ?_
  refine z_aload_n 0 dX3_init_80 rfl rfl ?_
  refine z_bipush 7 dX3_init_81 (by decide) ?_
  refine n_ints 7 (t' := [.inl (.int, 8, .inl (fun _ => 0)), .inl (.int, 7, .inl (fun _ => 0)), .inl (.int, 7, .inl (fun _ => 0)), .inl (.int, 7, .inl (fun _ => 0)), .inl (.int, 7, .inl (fun _ => 0)), .inl (.int, 7, .inl (fun _ => 0)), .inl (.int, 7, .inl (fun _ => 0)), .inl (.int, 7, .inl (fun _ => 0))]) (qq := q + 8) (by decide) (by decide) (by decide) hq hl (Nat.le_of_ble_eq_true rfl) rfl rfl (Nat.le_of_ble_eq_true rfl) (Nat.le_of_ble_eq_true rfl) dX3_init_83 ?_
  refine n_putF (fs' := [.int 0, .int 0, .int 0, .int 0, .ref (q + 1), .ref (q + 2), .ref (q + 3), .ref (q + 4), .ref (q + 5), .ref (q + 6), .ref (q + 7), .ref (q + 8), .null, .int 0, .int 0, .int 0]) fX3_46 (fun C T N h => by cases h; rfl) (fun C T N h => by cases h; exact (show Cond.fieldLink RX3 46 RX3 "labels" "[I" ∈ zT from (zt1 (i := 99) (by decide +kernel) rfl))) rfl (fun _ => rfl) (fun _ => rfl) (Nat.le_of_ble_eq_true rfl) dX3_init_85 hq rfl ?_
  refine z_aload_n 0 dX3_init_88 rfl rfl ?_
  refine z_bipush 7 dX3_init_89 (by decide) ?_
  refine n_ints 7 (t' := [.inl (.int, 8, .inl (fun _ => 0)), .inl (.int, 7, .inl (fun _ => 0)), .inl (.int, 7, .inl (fun _ => 0)), .inl (.int, 7, .inl (fun _ => 0)), .inl (.int, 7, .inl (fun _ => 0)), .inl (.int, 7, .inl (fun _ => 0)), .inl (.int, 7, .inl (fun _ => 0)), .inl (.int, 7, .inl (fun _ => 0)), .inl (.int, 7, .inl (fun _ => 0))]) (qq := q + 9) (by decide) (by decide) (by decide) hq hl (Nat.le_of_ble_eq_true rfl) rfl rfl (Nat.le_of_ble_eq_true rfl) (Nat.le_of_ble_eq_true rfl) dX3_init_91 ?_
  refine n_putF (fs' := [.int 0, .int 0, .int 0, .int 0, .ref (q + 1), .ref (q + 2), .ref (q + 3), .ref (q + 4), .ref (q + 5), .ref (q + 6), .ref (q + 7), .ref (q + 8), .ref (q + 9), .int 0, .int 0, .int 0]) fX3_49 (fun C T N h => by cases h; rfl) (fun C T N h => by cases h; exact (show Cond.fieldLink RX3 49 RX3 "marks" "[I" ∈ zT from (zt1 (i := 102) (by decide +kernel) rfl))) rfl (fun _ => rfl) (fun _ => rfl) (Nat.le_of_ble_eq_true rfl) dX3_init_93 hq rfl ?_
  refine z_aload_n 0 dX3_init_96 rfl rfl ?_
  refine z_iconst 0 dX3_init_97 (by decide) ?_
  refine n_put (fs' := [.int 0, .int 0, .int 0, .int 0, .ref (q + 1), .ref (q + 2), .ref (q + 3), .ref (q + 4), .ref (q + 5), .ref (q + 6), .ref (q + 7), .ref (q + 8), .ref (q + 9), .int 0, .int 0, .int 0]) fX3_52 (fun _ => rfl) (fun _ => rfl) (Nat.le_of_ble_eq_true rfl) dX3_init_98 hq rfl ?_
  refine z_aload_n 0 dX3_init_101 rfl rfl ?_
  refine z_iconst 0 dX3_init_102 (by decide) ?_
  refine n_put (fs' := [.int 0, .int 0, .int 0, .int 0, .ref (q + 1), .ref (q + 2), .ref (q + 3), .ref (q + 4), .ref (q + 5), .ref (q + 6), .ref (q + 7), .ref (q + 8), .ref (q + 9), .int 0, .int 0, .int 0]) fX3_55 (fun _ => rfl) (fun _ => rfl) (Nat.le_of_ble_eq_true rfl) dX3_init_103 hq rfl ?_
  refine z_aload_n 0 dX3_init_106 rfl rfl ?_
  refine z_iconst 0 dX3_init_107 (by decide) ?_
  refine n_put (fs' := [.int 0, .int 0, .int 0, .int 0, .ref (q + 1), .ref (q + 2), .ref (q + 3), .ref (q + 4), .ref (q + 5), .ref (q + 6), .ref (q + 7), .ref (q + 8), .ref (q + 9), .int 0, .int 0, .int 0]) fX3_58 (fun _ => rfl) (fun _ => rfl) (Nat.le_of_ble_eq_true rfl) dX3_init_108 hq rfl ?_
  exact z_vret dX3_init_111 rfl (Nat.le_of_ble_eq_true rfl) (Nat.le_of_ble_eq_true rfl) ⟨rfl, rfl⟩
set_option maxRecDepth 100000 in
def n4l (q : Nat) : zH := [.inr (4, [.ref (q + 1), .ref (q + 2), .ref (q + 3), .ref (q + 4), .int 0, .int 0]), .inl (.int, 7, .inl (fun _ => 0)), .inl (.int, 7, .inl (fun _ => 0)), .inl (.int, 7, .inl (fun _ => 0)), .inl (.int, 7, .inl (fun _ => 0))]
set_option maxRecDepth 100000 in
theorem cn4l {h0 : zH} {q : Nat} (hq : h0.length = q) (hl : q + 100 < zE0) : Ev MX4_init 1 4 28 [.ref q] (h0 ++ [.inr (4, [.null, .null, .null, .null, .int 0, .int 0])]) (fun o h => o = none ∧ h = h0 ++ n4l q) := by
  refine Ev.of (by decide) (Nat.le_of_ble_eq_true rfl) ?_
  show Z _ 0 [(0, .ref q)] _ _ _ _
  refine z_aload_n 0 dX4_init_0 rfl rfl ?_
  refine z_objInit oX4_3 zh_oi zh_oc dX4_init_1 (Nat.le_of_ble_eq_true rfl) (Nat.le_of_ble_eq_true rfl) ?_
  refine z_aload_n 0 dX4_init_4 rfl rfl ?_
  refine z_bipush 7 dX4_init_5 (by decide) ?_
  refine n_ints 7 (t' := [.inl (.int, 7, .inl (fun _ => 0))]) (qq := q + 1) (by decide) (by decide) (by decide) hq hl (Nat.le_of_ble_eq_true rfl) rfl rfl (Nat.le_of_ble_eq_true rfl) (Nat.le_of_ble_eq_true rfl) dX4_init_7 ?_
  refine n_putF (fs' := [.ref (q + 1), .null, .null, .null, .int 0, .int 0]) fX4_9 (fun C T N h => by cases h; rfl) (fun C T N h => by cases h; exact (show Cond.fieldLink RX4 9 RX4 "behind" "[I" ∈ zT from (zt1 (i := 169) (by decide +kernel) rfl))) rfl (fun _ => rfl) (fun _ => rfl) (Nat.le_of_ble_eq_true rfl) dX4_init_9 hq rfl ?_
  refine z_aload_n 0 dX4_init_12 rfl rfl ?_
  refine z_bipush 7 dX4_init_13 (by decide) ?_
  refine n_ints 7 (t' := [.inl (.int, 7, .inl (fun _ => 0)), .inl (.int, 7, .inl (fun _ => 0))]) (qq := q + 2) (by decide) (by decide) (by decide) hq hl (Nat.le_of_ble_eq_true rfl) rfl rfl (Nat.le_of_ble_eq_true rfl) (Nat.le_of_ble_eq_true rfl) dX4_init_15 ?_
  refine n_putF (fs' := [.ref (q + 1), .ref (q + 2), .null, .null, .int 0, .int 0]) fX4_15 (fun C T N h => by cases h; rfl) (fun C T N h => by cases h; exact (show Cond.fieldLink RX4 15 RX4 "alike" "[I" ∈ zT from (zt1 (i := 170) (by decide +kernel) rfl))) rfl (fun _ => rfl) (fun _ => rfl) (Nat.le_of_ble_eq_true rfl) dX4_init_17 hq rfl ?_
  refine z_aload_n 0 dX4_init_20 rfl rfl ?_
  refine z_bipush 7 dX4_init_21 (by decide) ?_
  refine n_ints 7 (t' := [.inl (.int, 7, .inl (fun _ => 0)), .inl (.int, 7, .inl (fun _ => 0)), .inl (.int, 7, .inl (fun _ => 0))]) (qq := q + 3) (by decide) (by decide) (by decide) hq hl (Nat.le_of_ble_eq_true rfl) rfl rfl (Nat.le_of_ble_eq_true rfl) (Nat.le_of_ble_eq_true rfl) dX4_init_23 ?_
  refine n_putF (fs' := [.ref (q + 1), .ref (q + 2), .ref (q + 3), .null, .int 0, .int 0]) fX4_18 (fun C T N h => by cases h; rfl) (fun C T N h => by cases h; exact (show Cond.fieldLink RX4 18 RX4 "tried" "[I" ∈ zT from (zt1 (i := 171) (by decide +kernel) rfl))) rfl (fun _ => rfl) (fun _ => rfl) (Nat.le_of_ble_eq_true rfl) dX4_init_25 hq rfl ?_
  refine z_aload_n 0 dX4_init_28 rfl rfl ?_
  refine z_bipush 7 dX4_init_29 (by decide) ?_
  refine n_ints 7 (t' := [.inl (.int, 7, .inl (fun _ => 0)), .inl (.int, 7, .inl (fun _ => 0)), .inl (.int, 7, .inl (fun _ => 0)), .inl (.int, 7, .inl (fun _ => 0))]) (qq := q + 4) (by decide) (by decide) (by decide) hq hl (Nat.le_of_ble_eq_true rfl) rfl rfl (Nat.le_of_ble_eq_true rfl) (Nat.le_of_ble_eq_true rfl) dX4_init_31 ?_
  refine n_putF (fs' := [.ref (q + 1), .ref (q + 2), .ref (q + 3), .ref (q + 4), .int 0, .int 0]) fX4_21 (fun C T N h => by cases h; rfl) (fun C T N h => by cases h; exact (show Cond.fieldLink RX4 21 RX4 "best" "[I" ∈ zT from (zt1 (i := 172) (by decide +kernel) rfl))) rfl (fun _ => rfl) (fun _ => rfl) (Nat.le_of_ble_eq_true rfl) dX4_init_33 hq rfl ?_
  refine z_aload_n 0 dX4_init_36 rfl rfl ?_
  refine z_iconst 0 dX4_init_37 (by decide) ?_
  refine n_put (fs' := [.ref (q + 1), .ref (q + 2), .ref (q + 3), .ref (q + 4), .int 0, .int 0]) fX4_24 (fun _ => rfl) (fun _ => rfl) (Nat.le_of_ble_eq_true rfl) dX4_init_38 hq rfl ?_
  refine z_aload_n 0 dX4_init_41 rfl rfl ?_
  refine z_iconst 0 dX4_init_42 (by decide) ?_
  refine n_put (fs' := [.ref (q + 1), .ref (q + 2), .ref (q + 3), .ref (q + 4), .int 0, .int 0]) fX4_28 (fun _ => rfl) (fun _ => rfl) (Nat.le_of_ble_eq_true rfl) dX4_init_43 hq rfl ?_
  exact z_vret dX4_init_46 rfl (Nat.le_of_ble_eq_true rfl) (Nat.le_of_ble_eq_true rfl) ⟨rfl, rfl⟩
set_option maxRecDepth 100000 in
def n5t (q : Nat) : zH := [.inr (5, [.ref (q + 1), .int 0, .int 0, .int 0, .int (-1)]), .inl (.byte, 400, .inl (fun _ => 0))]
set_option maxRecDepth 100000 in
theorem cn5t {h0 : zH} {q : Nat} (hq : h0.length = q) (hl : q + 100 < zE0) : Ev MX5_init 1 1 400 [.ref q] (h0 ++ [.inr (5, [.null, .int 0, .int 0, .int 0, .int 0])]) (fun o h => o = none ∧ h = h0 ++ n5t q) := by
  refine Ev.of (by decide) (Nat.le_of_ble_eq_true rfl) ?_
  show Z _ 0 [(0, .ref q)] _ _ _ _
  refine z_aload_n 0 dX5_init_0 rfl rfl ?_
  refine z_objInit oX5_3 zh_oi zh_oc dX5_init_1 (Nat.le_of_ble_eq_true rfl) (Nat.le_of_ble_eq_true rfl) ?_
  refine z_aload_n 0 dX5_init_4 rfl rfl ?_
  refine z_sipush 400 dX5_init_5 (by decide) ?_
  refine n_bytes 400 (t' := [.inl (.byte, 400, .inl (fun _ => 0))]) (qq := q + 1) (by decide) (by decide) (by decide) hq hl (Nat.le_of_ble_eq_true rfl) rfl rfl (Nat.le_of_ble_eq_true rfl) (Nat.le_of_ble_eq_true rfl) dX5_init_8 ?_
  refine n_putF (fs' := [.ref (q + 1), .int 0, .int 0, .int 0, .int 0]) fX5_9 (fun C T N h => by cases h; rfl) (fun C T N h => by cases h; exact (show Cond.fieldLink RX5 9 RX5 "bytes" "[B" ∈ zT from (zt1 (i := 29) (by decide +kernel) rfl))) rfl (fun _ => rfl) (fun _ => rfl) (Nat.le_of_ble_eq_true rfl) dX5_init_10 hq rfl ?_
  refine z_aload_n 0 dX5_init_13 rfl rfl ?_
  refine z_iconst 0 dX5_init_14 (by decide) ?_
  refine n_put (fs' := [.ref (q + 1), .int 0, .int 0, .int 0, .int 0]) fX5_15 (fun _ => rfl) (fun _ => rfl) (Nat.le_of_ble_eq_true rfl) dX5_init_15 hq rfl ?_
  refine z_aload_n 0 dX5_init_18 rfl rfl ?_
  refine z_iconst 0 dX5_init_19 (by decide) ?_
  refine n_put (fs' := [.ref (q + 1), .int 0, .int 0, .int 0, .int 0]) fX5_19 (fun _ => rfl) (fun _ => rfl) (Nat.le_of_ble_eq_true rfl) dX5_init_20 hq rfl ?_
  refine z_aload_n 0 dX5_init_23 rfl rfl ?_
  refine z_iconst 0 dX5_init_24 (by decide) ?_
  refine n_put (fs' := [.ref (q + 1), .int 0, .int 0, .int 0, .int 0]) fX5_22 (fun _ => rfl) (fun _ => rfl) (Nat.le_of_ble_eq_true rfl) dX5_init_25 hq rfl ?_
  refine z_aload_n 0 dX5_init_28 rfl rfl ?_
  refine z_iconst (-1) dX5_init_29 (by decide) ?_
  refine n_put (fs' := [.ref (q + 1), .int 0, .int 0, .int 0, .int (-1)]) fX5_25 (fun _ => rfl) (fun _ => rfl) (Nat.le_of_ble_eq_true rfl) dX5_init_30 hq rfl ?_
  exact z_vret dX5_init_33 rfl (Nat.le_of_ble_eq_true rfl) (Nat.le_of_ble_eq_true rfl) ⟨rfl, rfl⟩
set_option maxRecDepth 100000 in
def n7r (q : Nat) : zH := [.inr (7, [.ref (q + 1), .ref (q + 2), .int 6, .int 2, .ref (q + 3), .ref (q + 4), .ref (q + 5), .ref (q + 6), .ref (q + 7), .ref (q + 8), .int 2, .ref (q + 9), .int 0, .int 0, .int 0, .int 0, .int 0, .int (-1), .int 0, .int 0, .int 0, .ref (q + 10), .ref (q + 11), .ref (q + 12), .ref (q + 13), .int 0, .ref (q + 14), .ref (q + 15), .ref (q + 16), .ref (q + 17), .int 0]), .inl (.int, 400, .inl (fun _ => 0)), .inl (.boolean, 2, .inl (fun _ => 0)), .inl (.int, 16, .inl (fun _ => 0)), .inl (.int, 16, .inl (fun _ => 0)), .inl (.int, 16, .inl (fun _ => 0)), .inl (.int, 16, .inl (fun _ => 0)), .inl (.int, 4, .inl (fun _ => 0)), .inl (.int, 8, .inl (upd (upd (fun _ => 0) 0 0) 1 1)), .inl (.int, 400, .inl (fun _ => 0)), .inl (.int, 8, .inl (fun _ => 0)), .inl (.int, 8, .inl (fun _ => 0)), .inl (.int, 8, .inl (fun _ => 0)), .inl (.int, 8, .inl (fun _ => 0)), .inl (.int, 1024, .inl (fun _ => 0)), .inl (.int, 1024, .inl (fun _ => 0)), .inl (.int, 20, .inl (fun _ => 0)), .inl (.int, 20, .inl (fun _ => 0))]
set_option maxRecDepth 100000 in
theorem cn7r {h0 : zH} {q : Nat} (hq : h0.length = q) (hl : q + 100 < zE0) : Ev MX7_init 1 17 2998 [.ref q] (h0 ++ [.inr (7, [.null, .null, .int 0, .int 0, .null, .null, .null, .null, .null, .null, .int 0, .null, .int 0, .int 0, .int 0, .int 0, .int 0, .int 0, .int 0, .int 0, .int 0, .null, .null, .null, .null, .int 0, .null, .null, .null, .null, .int 0])]) (fun o h => o = none ∧ h = h0 ++ n7r q) := by
  refine Ev.of (by decide) (Nat.le_of_ble_eq_true rfl) ?_
  show Z _ 0 [(0, .ref q)] _ _ _ _
  refine z_aload_n 0 dX7_init_0 rfl rfl ?_
  refine z_objInit oX7_1 zh_oi zh_oc dX7_init_1 (Nat.le_of_ble_eq_true rfl) (Nat.le_of_ble_eq_true rfl) ?_
  refine z_aload_n 0 dX7_init_4 rfl rfl ?_
  refine z_sipush 400 dX7_init_5 (by decide) ?_
  refine n_ints 400 (t' := [.inl (.int, 400, .inl (fun _ => 0))]) (qq := q + 1) (by decide) (by decide) (by decide) hq hl (Nat.le_of_ble_eq_true rfl) rfl rfl (Nat.le_of_ble_eq_true rfl) (Nat.le_of_ble_eq_true rfl) dX7_init_8 ?_
  refine n_putF (fs' := [.ref (q + 1), .null, .int 0, .int 0, .null, .null, .null, .null, .null, .null, .int 0, .null, .int 0, .int 0, .int 0, .int 0, .int 0, .int 0, .int 0, .int 0, .int 0, .null, .null, .null, .null, .int 0, .null, .null, .null, .null, .int 0]) fX7_7 (fun C T N h => by cases h; rfl) (fun C T N h => by cases h; exact (show Cond.fieldLink RX7 7 RX7 "w" "[I" ∈ zT from (zt4 (i := 31) (by decide +kernel) rfl))) rfl (fun _ => rfl) (fun _ => rfl) (Nat.le_of_ble_eq_true rfl) dX7_init_10 hq rfl ?_
  refine z_aload_n 0 dX7_init_13 rfl rfl ?_
  refine z_iconst 2 dX7_init_14 (by decide) ?_
  refine n_bools 2 (t' := [.inl (.int, 400, .inl (fun _ => 0)), .inl (.boolean, 2, .inl (fun _ => 0))]) (qq := q + 2) (by decide) (by decide) (by decide) hq hl (Nat.le_of_ble_eq_true rfl) rfl rfl (Nat.le_of_ble_eq_true rfl) (Nat.le_of_ble_eq_true rfl) dX7_init_15 ?_
  refine n_putF (fs' := [.ref (q + 1), .ref (q + 2), .int 0, .int 0, .null, .null, .null, .null, .null, .null, .int 0, .null, .int 0, .int 0, .int 0, .int 0, .int 0, .int 0, .int 0, .int 0, .int 0, .null, .null, .null, .null, .int 0, .null, .null, .null, .null, .int 0]) fX7_13 (fun C T N h => by cases h; rfl) (fun C T N h => by cases h; exact (show Cond.fieldLink RX7 13 RX7 "isKept" "[Z" ∈ zT from (zt4 (i := 32) (by decide +kernel) rfl))) rfl (fun _ => rfl) (fun _ => rfl) (Nat.le_of_ble_eq_true rfl) dX7_init_17 hq rfl ?_
  refine z_aload_n 0 dX7_init_20 rfl rfl ?_
  refine z_bipush 6 dX7_init_21 (by decide) ?_
  refine n_put (fs' := [.ref (q + 1), .ref (q + 2), .int 6, .int 0, .null, .null, .null, .null, .null, .null, .int 0, .null, .int 0, .int 0, .int 0, .int 0, .int 0, .int 0, .int 0, .int 0, .int 0, .null, .null, .null, .null, .int 0, .null, .null, .null, .null, .int 0]) fX7_17 (fun _ => rfl) (fun _ => rfl) (Nat.le_of_ble_eq_true rfl) dX7_init_23 hq rfl ?_
  refine z_aload_n 0 dX7_init_26 rfl rfl ?_
  refine z_iconst 2 dX7_init_27 (by decide) ?_
  refine n_put (fs' := [.ref (q + 1), .ref (q + 2), .int 6, .int 2, .null, .null, .null, .null, .null, .null, .int 0, .null, .int 0, .int 0, .int 0, .int 0, .int 0, .int 0, .int 0, .int 0, .int 0, .null, .null, .null, .null, .int 0, .null, .null, .null, .null, .int 0]) fX7_21 (fun _ => rfl) (fun _ => rfl) (Nat.le_of_ble_eq_true rfl) dX7_init_28 hq rfl ?_
  refine z_aload_n 0 dX7_init_31 rfl rfl ?_
  refine z_bipush 16 dX7_init_32 (by decide) ?_
  refine n_ints 16 (t' := [.inl (.int, 400, .inl (fun _ => 0)), .inl (.boolean, 2, .inl (fun _ => 0)), .inl (.int, 16, .inl (fun _ => 0))]) (qq := q + 3) (by decide) (by decide) (by decide) hq hl (Nat.le_of_ble_eq_true rfl) rfl rfl (Nat.le_of_ble_eq_true rfl) (Nat.le_of_ble_eq_true rfl) dX7_init_34 ?_
  refine n_putF (fs' := [.ref (q + 1), .ref (q + 2), .int 6, .int 2, .ref (q + 3), .null, .null, .null, .null, .null, .int 0, .null, .int 0, .int 0, .int 0, .int 0, .int 0, .int 0, .int 0, .int 0, .int 0, .null, .null, .null, .null, .int 0, .null, .null, .null, .null, .int 0]) fX7_24 (fun C T N h => by cases h; rfl) (fun C T N h => by cases h; exact (show Cond.fieldLink RX7 24 RX7 "frosts" "[I" ∈ zT from (zt4 (i := 35) (by decide +kernel) rfl))) rfl (fun _ => rfl) (fun _ => rfl) (Nat.le_of_ble_eq_true rfl) dX7_init_36 hq rfl ?_
  refine z_aload_n 0 dX7_init_39 rfl rfl ?_
  refine z_bipush 16 dX7_init_40 (by decide) ?_
  refine n_ints 16 (t' := [.inl (.int, 400, .inl (fun _ => 0)), .inl (.boolean, 2, .inl (fun _ => 0)), .inl (.int, 16, .inl (fun _ => 0)), .inl (.int, 16, .inl (fun _ => 0))]) (qq := q + 4) (by decide) (by decide) (by decide) hq hl (Nat.le_of_ble_eq_true rfl) rfl rfl (Nat.le_of_ble_eq_true rfl) (Nat.le_of_ble_eq_true rfl) dX7_init_42 ?_
  refine n_putF (fs' := [.ref (q + 1), .ref (q + 2), .int 6, .int 2, .ref (q + 3), .ref (q + 4), .null, .null, .null, .null, .int 0, .null, .int 0, .int 0, .int 0, .int 0, .int 0, .int 0, .int 0, .int 0, .int 0, .null, .null, .null, .null, .int 0, .null, .null, .null, .null, .int 0]) fX7_27 (fun C T N h => by cases h; rfl) (fun C T N h => by cases h; exact (show Cond.fieldLink RX7 27 RX7 "ranks" "[I" ∈ zT from (zt4 (i := 36) (by decide +kernel) rfl))) rfl (fun _ => rfl) (fun _ => rfl) (Nat.le_of_ble_eq_true rfl) dX7_init_44 hq rfl ?_
  refine z_aload_n 0 dX7_init_47 rfl rfl ?_
  refine z_bipush 16 dX7_init_48 (by decide) ?_
  refine n_ints 16 (t' := [.inl (.int, 400, .inl (fun _ => 0)), .inl (.boolean, 2, .inl (fun _ => 0)), .inl (.int, 16, .inl (fun _ => 0)), .inl (.int, 16, .inl (fun _ => 0)), .inl (.int, 16, .inl (fun _ => 0))]) (qq := q + 5) (by decide) (by decide) (by decide) hq hl (Nat.le_of_ble_eq_true rfl) rfl rfl (Nat.le_of_ble_eq_true rfl) (Nat.le_of_ble_eq_true rfl) dX7_init_50 ?_
  refine n_putF (fs' := [.ref (q + 1), .ref (q + 2), .int 6, .int 2, .ref (q + 3), .ref (q + 4), .ref (q + 5), .null, .null, .null, .int 0, .null, .int 0, .int 0, .int 0, .int 0, .int 0, .int 0, .int 0, .int 0, .int 0, .null, .null, .null, .null, .int 0, .null, .null, .null, .null, .int 0]) fX7_30 (fun C T N h => by cases h; rfl) (fun C T N h => by cases h; exact (show Cond.fieldLink RX7 30 RX7 "waits" "[I" ∈ zT from (zt4 (i := 37) (by decide +kernel) rfl))) rfl (fun _ => rfl) (fun _ => rfl) (Nat.le_of_ble_eq_true rfl) dX7_init_52 hq rfl ?_
  refine z_aload_n 0 dX7_init_55 rfl rfl ?_
  refine z_bipush 16 dX7_init_56 (by decide) ?_
  refine n_ints 16 (t' := [.inl (.int, 400, .inl (fun _ => 0)), .inl (.boolean, 2, .inl (fun _ => 0)), .inl (.int, 16, .inl (fun _ => 0)), .inl (.int, 16, .inl (fun _ => 0)), .inl (.int, 16, .inl (fun _ => 0)), .inl (.int, 16, .inl (fun _ => 0))]) (qq := q + 6) (by decide) (by decide) (by decide) hq hl (Nat.le_of_ble_eq_true rfl) rfl rfl (Nat.le_of_ble_eq_true rfl) (Nat.le_of_ble_eq_true rfl) dX7_init_58 ?_
  refine n_putF (fs' := [.ref (q + 1), .ref (q + 2), .int 6, .int 2, .ref (q + 3), .ref (q + 4), .ref (q + 5), .ref (q + 6), .null, .null, .int 0, .null, .int 0, .int 0, .int 0, .int 0, .int 0, .int 0, .int 0, .int 0, .int 0, .null, .null, .null, .null, .int 0, .null, .null, .null, .null, .int 0]) fX7_33 (fun C T N h => by cases h; rfl) (fun C T N h => by cases h; exact (show Cond.fieldLink RX7 33 RX7 "kins" "[I" ∈ zT from (zt4 (i := 38) (by decide +kernel) rfl))) rfl (fun _ => rfl) (fun _ => rfl) (Nat.le_of_ble_eq_true rfl) dX7_init_60 hq rfl ?_
  refine z_aload_n 0 dX7_init_63 rfl rfl ?_
  refine z_iconst 4 dX7_init_64 (by decide) ?_
  refine n_ints 4 (t' := [.inl (.int, 400, .inl (fun _ => 0)), .inl (.boolean, 2, .inl (fun _ => 0)), .inl (.int, 16, .inl (fun _ => 0)), .inl (.int, 16, .inl (fun _ => 0)), .inl (.int, 16, .inl (fun _ => 0)), .inl (.int, 16, .inl (fun _ => 0)), .inl (.int, 4, .inl (fun _ => 0))]) (qq := q + 7) (by decide) (by decide) (by decide) hq hl (Nat.le_of_ble_eq_true rfl) rfl rfl (Nat.le_of_ble_eq_true rfl) (Nat.le_of_ble_eq_true rfl) dX7_init_65 ?_
  refine n_putF (fs' := [.ref (q + 1), .ref (q + 2), .int 6, .int 2, .ref (q + 3), .ref (q + 4), .ref (q + 5), .ref (q + 6), .ref (q + 7), .null, .int 0, .null, .int 0, .int 0, .int 0, .int 0, .int 0, .int 0, .int 0, .int 0, .int 0, .null, .null, .null, .null, .int 0, .null, .null, .null, .null, .int 0]) fX7_36 (fun C T N h => by cases h; rfl) (fun C T N h => by cases h; exact (show Cond.fieldLink RX7 36 RX7 "many" "[I" ∈ zT from (zt4 (i := 39) (by decide +kernel) rfl))) rfl (fun _ => rfl) (fun _ => rfl) (Nat.le_of_ble_eq_true rfl) dX7_init_67 hq rfl ?_
  refine z_aload_n 0 dX7_init_70 rfl rfl ?_
  refine z_bipush 8 dX7_init_71 (by decide) ?_
  refine n_ints 8 (t' := [.inl (.int, 400, .inl (fun _ => 0)), .inl (.boolean, 2, .inl (fun _ => 0)), .inl (.int, 16, .inl (fun _ => 0)), .inl (.int, 16, .inl (fun _ => 0)), .inl (.int, 16, .inl (fun _ => 0)), .inl (.int, 16, .inl (fun _ => 0)), .inl (.int, 4, .inl (fun _ => 0)), .inl (.int, 8, .inl (fun _ => 0))]) (qq := q + 8) (by decide) (by decide) (by decide) hq hl (Nat.le_of_ble_eq_true rfl) rfl rfl (Nat.le_of_ble_eq_true rfl) (Nat.le_of_ble_eq_true rfl) dX7_init_73 ?_
  refine n_putF (fs' := [.ref (q + 1), .ref (q + 2), .int 6, .int 2, .ref (q + 3), .ref (q + 4), .ref (q + 5), .ref (q + 6), .ref (q + 7), .ref (q + 8), .int 0, .null, .int 0, .int 0, .int 0, .int 0, .int 0, .int 0, .int 0, .int 0, .int 0, .null, .null, .null, .null, .int 0, .null, .null, .null, .null, .int 0]) fX7_39 (fun C T N h => by cases h; rfl) (fun C T N h => by cases h; exact (show Cond.fieldLink RX7 39 RX7 "clauses" "[I" ∈ zT from (zt4 (i := 40) (by decide +kernel) rfl))) rfl (fun _ => rfl) (fun _ => rfl) (Nat.le_of_ble_eq_true rfl) dX7_init_75 hq rfl ?_
  refine z_aload_n 0 dX7_init_78 rfl rfl ?_
  refine z_sipush 400 dX7_init_79 (by decide) ?_
  refine n_ints 400 (t' := [.inl (.int, 400, .inl (fun _ => 0)), .inl (.boolean, 2, .inl (fun _ => 0)), .inl (.int, 16, .inl (fun _ => 0)), .inl (.int, 16, .inl (fun _ => 0)), .inl (.int, 16, .inl (fun _ => 0)), .inl (.int, 16, .inl (fun _ => 0)), .inl (.int, 4, .inl (fun _ => 0)), .inl (.int, 8, .inl (fun _ => 0)), .inl (.int, 400, .inl (fun _ => 0))]) (qq := q + 9) (by decide) (by decide) (by decide) hq hl (Nat.le_of_ble_eq_true rfl) rfl rfl (Nat.le_of_ble_eq_true rfl) (Nat.le_of_ble_eq_true rfl) dX7_init_82 ?_
  refine n_putF (fs' := [.ref (q + 1), .ref (q + 2), .int 6, .int 2, .ref (q + 3), .ref (q + 4), .ref (q + 5), .ref (q + 6), .ref (q + 7), .ref (q + 8), .int 0, .ref (q + 9), .int 0, .int 0, .int 0, .int 0, .int 0, .int 0, .int 0, .int 0, .int 0, .null, .null, .null, .null, .int 0, .null, .null, .null, .null, .int 0]) fX7_42 (fun C T N h => by cases h; rfl) (fun C T N h => by cases h; exact (show Cond.fieldLink RX7 42 RX7 "text" "[I" ∈ zT from (zt4 (i := 42) (by decide +kernel) rfl))) rfl (fun _ => rfl) (fun _ => rfl) (Nat.le_of_ble_eq_true rfl) dX7_init_84 hq rfl ?_
  refine z_aload_n 0 dX7_init_87 rfl rfl ?_
  refine z_iconst (-1) dX7_init_88 (by decide) ?_
  refine n_put (fs' := [.ref (q + 1), .ref (q + 2), .int 6, .int 2, .ref (q + 3), .ref (q + 4), .ref (q + 5), .ref (q + 6), .ref (q + 7), .ref (q + 8), .int 0, .ref (q + 9), .int 0, .int 0, .int 0, .int 0, .int 0, .int (-1), .int 0, .int 0, .int 0, .null, .null, .null, .null, .int 0, .null, .null, .null, .null, .int 0]) fX7_45 (fun _ => rfl) (fun _ => rfl) (Nat.le_of_ble_eq_true rfl) dX7_init_89 hq rfl ?_
  refine z_aload_n 0 dX7_init_92 rfl rfl ?_
  refine z_bipush 8 dX7_init_93 (by decide) ?_
  refine n_ints 8 (t' := [.inl (.int, 400, .inl (fun _ => 0)), .inl (.boolean, 2, .inl (fun _ => 0)), .inl (.int, 16, .inl (fun _ => 0)), .inl (.int, 16, .inl (fun _ => 0)), .inl (.int, 16, .inl (fun _ => 0)), .inl (.int, 16, .inl (fun _ => 0)), .inl (.int, 4, .inl (fun _ => 0)), .inl (.int, 8, .inl (fun _ => 0)), .inl (.int, 400, .inl (fun _ => 0)), .inl (.int, 8, .inl (fun _ => 0))]) (qq := q + 10) (by decide) (by decide) (by decide) hq hl (Nat.le_of_ble_eq_true rfl) rfl rfl (Nat.le_of_ble_eq_true rfl) (Nat.le_of_ble_eq_true rfl) dX7_init_95 ?_
  refine n_putF (fs' := [.ref (q + 1), .ref (q + 2), .int 6, .int 2, .ref (q + 3), .ref (q + 4), .ref (q + 5), .ref (q + 6), .ref (q + 7), .ref (q + 8), .int 0, .ref (q + 9), .int 0, .int 0, .int 0, .int 0, .int 0, .int (-1), .int 0, .int 0, .int 0, .ref (q + 10), .null, .null, .null, .int 0, .null, .null, .null, .null, .int 0]) fX7_48 (fun C T N h => by cases h; rfl) (fun C T N h => by cases h; exact (show Cond.fieldLink RX7 48 RX7 "newClauses" "[I" ∈ zT from (zt4 (i := 52) (by decide +kernel) rfl))) rfl (fun _ => rfl) (fun _ => rfl) (Nat.le_of_ble_eq_true rfl) dX7_init_97 hq rfl ?_
  refine z_aload_n 0 dX7_init_100 rfl rfl ?_
  refine z_bipush 8 dX7_init_101 (by decide) ?_
  refine n_ints 8 (t' := [.inl (.int, 400, .inl (fun _ => 0)), .inl (.boolean, 2, .inl (fun _ => 0)), .inl (.int, 16, .inl (fun _ => 0)), .inl (.int, 16, .inl (fun _ => 0)), .inl (.int, 16, .inl (fun _ => 0)), .inl (.int, 16, .inl (fun _ => 0)), .inl (.int, 4, .inl (fun _ => 0)), .inl (.int, 8, .inl (fun _ => 0)), .inl (.int, 400, .inl (fun _ => 0)), .inl (.int, 8, .inl (fun _ => 0)), .inl (.int, 8, .inl (fun _ => 0))]) (qq := q + 11) (by decide) (by decide) (by decide) hq hl (Nat.le_of_ble_eq_true rfl) rfl rfl (Nat.le_of_ble_eq_true rfl) (Nat.le_of_ble_eq_true rfl) dX7_init_103 ?_
  refine n_putF (fs' := [.ref (q + 1), .ref (q + 2), .int 6, .int 2, .ref (q + 3), .ref (q + 4), .ref (q + 5), .ref (q + 6), .ref (q + 7), .ref (q + 8), .int 0, .ref (q + 9), .int 0, .int 0, .int 0, .int 0, .int 0, .int (-1), .int 0, .int 0, .int 0, .ref (q + 10), .ref (q + 11), .null, .null, .int 0, .null, .null, .null, .null, .int 0]) fX7_51 (fun C T N h => by cases h; rfl) (fun C T N h => by cases h; exact (show Cond.fieldLink RX7 51 RX7 "those" "[I" ∈ zT from (zt4 (i := 53) (by decide +kernel) rfl))) rfl (fun _ => rfl) (fun _ => rfl) (Nat.le_of_ble_eq_true rfl) dX7_init_105 hq rfl ?_
  refine z_aload_n 0 dX7_init_108 rfl rfl ?_
  refine z_bipush 8 dX7_init_109 (by decide) ?_
  refine n_ints 8 (t' := [.inl (.int, 400, .inl (fun _ => 0)), .inl (.boolean, 2, .inl (fun _ => 0)), .inl (.int, 16, .inl (fun _ => 0)), .inl (.int, 16, .inl (fun _ => 0)), .inl (.int, 16, .inl (fun _ => 0)), .inl (.int, 16, .inl (fun _ => 0)), .inl (.int, 4, .inl (fun _ => 0)), .inl (.int, 8, .inl (fun _ => 0)), .inl (.int, 400, .inl (fun _ => 0)), .inl (.int, 8, .inl (fun _ => 0)), .inl (.int, 8, .inl (fun _ => 0)), .inl (.int, 8, .inl (fun _ => 0))]) (qq := q + 12) (by decide) (by decide) (by decide) hq hl (Nat.le_of_ble_eq_true rfl) rfl rfl (Nat.le_of_ble_eq_true rfl) (Nat.le_of_ble_eq_true rfl) dX7_init_111 ?_
  refine n_putF (fs' := [.ref (q + 1), .ref (q + 2), .int 6, .int 2, .ref (q + 3), .ref (q + 4), .ref (q + 5), .ref (q + 6), .ref (q + 7), .ref (q + 8), .int 0, .ref (q + 9), .int 0, .int 0, .int 0, .int 0, .int 0, .int (-1), .int 0, .int 0, .int 0, .ref (q + 10), .ref (q + 11), .ref (q + 12), .null, .int 0, .null, .null, .null, .null, .int 0]) fX7_54 (fun C T N h => by cases h; rfl) (fun C T N h => by cases h; exact (show Cond.fieldLink RX7 54 RX7 "chosen" "[I" ∈ zT from (zt4 (i := 54) (by decide +kernel) rfl))) rfl (fun _ => rfl) (fun _ => rfl) (Nat.le_of_ble_eq_true rfl) dX7_init_113 hq rfl ?_
  refine z_aload_n 0 dX7_init_116 rfl rfl ?_
  refine z_bipush 8 dX7_init_117 (by decide) ?_
  refine n_ints 8 (t' := [.inl (.int, 400, .inl (fun _ => 0)), .inl (.boolean, 2, .inl (fun _ => 0)), .inl (.int, 16, .inl (fun _ => 0)), .inl (.int, 16, .inl (fun _ => 0)), .inl (.int, 16, .inl (fun _ => 0)), .inl (.int, 16, .inl (fun _ => 0)), .inl (.int, 4, .inl (fun _ => 0)), .inl (.int, 8, .inl (fun _ => 0)), .inl (.int, 400, .inl (fun _ => 0)), .inl (.int, 8, .inl (fun _ => 0)), .inl (.int, 8, .inl (fun _ => 0)), .inl (.int, 8, .inl (fun _ => 0)), .inl (.int, 8, .inl (fun _ => 0))]) (qq := q + 13) (by decide) (by decide) (by decide) hq hl (Nat.le_of_ble_eq_true rfl) rfl rfl (Nat.le_of_ble_eq_true rfl) (Nat.le_of_ble_eq_true rfl) dX7_init_119 ?_
  refine n_putF (fs' := [.ref (q + 1), .ref (q + 2), .int 6, .int 2, .ref (q + 3), .ref (q + 4), .ref (q + 5), .ref (q + 6), .ref (q + 7), .ref (q + 8), .int 0, .ref (q + 9), .int 0, .int 0, .int 0, .int 0, .int 0, .int (-1), .int 0, .int 0, .int 0, .ref (q + 10), .ref (q + 11), .ref (q + 12), .ref (q + 13), .int 0, .null, .null, .null, .null, .int 0]) fX7_57 (fun C T N h => by cases h; rfl) (fun C T N h => by cases h; exact (show Cond.fieldLink RX7 57 RX7 "bestChosen" "[I" ∈ zT from (zt4 (i := 55) (by decide +kernel) rfl))) rfl (fun _ => rfl) (fun _ => rfl) (Nat.le_of_ble_eq_true rfl) dX7_init_121 hq rfl ?_
  refine z_aload_n 0 dX7_init_124 rfl rfl ?_
  refine z_sipush 1024 dX7_init_125 (by decide) ?_
  refine n_ints 1024 (t' := [.inl (.int, 400, .inl (fun _ => 0)), .inl (.boolean, 2, .inl (fun _ => 0)), .inl (.int, 16, .inl (fun _ => 0)), .inl (.int, 16, .inl (fun _ => 0)), .inl (.int, 16, .inl (fun _ => 0)), .inl (.int, 16, .inl (fun _ => 0)), .inl (.int, 4, .inl (fun _ => 0)), .inl (.int, 8, .inl (fun _ => 0)), .inl (.int, 400, .inl (fun _ => 0)), .inl (.int, 8, .inl (fun _ => 0)), .inl (.int, 8, .inl (fun _ => 0)), .inl (.int, 8, .inl (fun _ => 0)), .inl (.int, 8, .inl (fun _ => 0)), .inl (.int, 1024, .inl (fun _ => 0))]) (qq := q + 14) (by decide) (by decide) (by decide) hq hl (Nat.le_of_ble_eq_true rfl) rfl rfl (Nat.le_of_ble_eq_true rfl) (Nat.le_of_ble_eq_true rfl) dX7_init_128 ?_
  refine n_putF (fs' := [.ref (q + 1), .ref (q + 2), .int 6, .int 2, .ref (q + 3), .ref (q + 4), .ref (q + 5), .ref (q + 6), .ref (q + 7), .ref (q + 8), .int 0, .ref (q + 9), .int 0, .int 0, .int 0, .int 0, .int 0, .int (-1), .int 0, .int 0, .int 0, .ref (q + 10), .ref (q + 11), .ref (q + 12), .ref (q + 13), .int 0, .ref (q + 14), .null, .null, .null, .int 0]) fX7_60 (fun C T N h => by cases h; rfl) (fun C T N h => by cases h; exact (show Cond.fieldLink RX7 60 RX7 "ways" "[I" ∈ zT from (zt4 (i := 57) (by decide +kernel) rfl))) rfl (fun _ => rfl) (fun _ => rfl) (Nat.le_of_ble_eq_true rfl) dX7_init_130 hq rfl ?_
  refine z_aload_n 0 dX7_init_133 rfl rfl ?_
  refine z_sipush 1024 dX7_init_134 (by decide) ?_
  refine n_ints 1024 (t' := [.inl (.int, 400, .inl (fun _ => 0)), .inl (.boolean, 2, .inl (fun _ => 0)), .inl (.int, 16, .inl (fun _ => 0)), .inl (.int, 16, .inl (fun _ => 0)), .inl (.int, 16, .inl (fun _ => 0)), .inl (.int, 16, .inl (fun _ => 0)), .inl (.int, 4, .inl (fun _ => 0)), .inl (.int, 8, .inl (fun _ => 0)), .inl (.int, 400, .inl (fun _ => 0)), .inl (.int, 8, .inl (fun _ => 0)), .inl (.int, 8, .inl (fun _ => 0)), .inl (.int, 8, .inl (fun _ => 0)), .inl (.int, 8, .inl (fun _ => 0)), .inl (.int, 1024, .inl (fun _ => 0)), .inl (.int, 1024, .inl (fun _ => 0))]) (qq := q + 15) (by decide) (by decide) (by decide) hq hl (Nat.le_of_ble_eq_true rfl) rfl rfl (Nat.le_of_ble_eq_true rfl) (Nat.le_of_ble_eq_true rfl) dX7_init_137 ?_
  refine n_putF (fs' := [.ref (q + 1), .ref (q + 2), .int 6, .int 2, .ref (q + 3), .ref (q + 4), .ref (q + 5), .ref (q + 6), .ref (q + 7), .ref (q + 8), .int 0, .ref (q + 9), .int 0, .int 0, .int 0, .int 0, .int 0, .int (-1), .int 0, .int 0, .int 0, .ref (q + 10), .ref (q + 11), .ref (q + 12), .ref (q + 13), .int 0, .ref (q + 14), .ref (q + 15), .null, .null, .int 0]) fX7_63 (fun C T N h => by cases h; rfl) (fun C T N h => by cases h; exact (show Cond.fieldLink RX7 63 RX7 "others" "[I" ∈ zT from (zt4 (i := 58) (by decide +kernel) rfl))) rfl (fun _ => rfl) (fun _ => rfl) (Nat.le_of_ble_eq_true rfl) dX7_init_139 hq rfl ?_
  refine z_aload_n 0 dX7_init_142 rfl rfl ?_
  refine z_bipush 20 dX7_init_143 (by decide) ?_
  refine n_ints 20 (t' := [.inl (.int, 400, .inl (fun _ => 0)), .inl (.boolean, 2, .inl (fun _ => 0)), .inl (.int, 16, .inl (fun _ => 0)), .inl (.int, 16, .inl (fun _ => 0)), .inl (.int, 16, .inl (fun _ => 0)), .inl (.int, 16, .inl (fun _ => 0)), .inl (.int, 4, .inl (fun _ => 0)), .inl (.int, 8, .inl (fun _ => 0)), .inl (.int, 400, .inl (fun _ => 0)), .inl (.int, 8, .inl (fun _ => 0)), .inl (.int, 8, .inl (fun _ => 0)), .inl (.int, 8, .inl (fun _ => 0)), .inl (.int, 8, .inl (fun _ => 0)), .inl (.int, 1024, .inl (fun _ => 0)), .inl (.int, 1024, .inl (fun _ => 0)), .inl (.int, 20, .inl (fun _ => 0))]) (qq := q + 16) (by decide) (by decide) (by decide) hq hl (Nat.le_of_ble_eq_true rfl) rfl rfl (Nat.le_of_ble_eq_true rfl) (Nat.le_of_ble_eq_true rfl) dX7_init_145 ?_
  refine n_putF (fs' := [.ref (q + 1), .ref (q + 2), .int 6, .int 2, .ref (q + 3), .ref (q + 4), .ref (q + 5), .ref (q + 6), .ref (q + 7), .ref (q + 8), .int 0, .ref (q + 9), .int 0, .int 0, .int 0, .int 0, .int 0, .int (-1), .int 0, .int 0, .int 0, .ref (q + 10), .ref (q + 11), .ref (q + 12), .ref (q + 13), .int 0, .ref (q + 14), .ref (q + 15), .ref (q + 16), .null, .int 0]) fX7_66 (fun C T N h => by cases h; rfl) (fun C T N h => by cases h; exact (show Cond.fieldLink RX7 66 RX7 "bookDead" "[I" ∈ zT from (zt4 (i := 59) (by decide +kernel) rfl))) rfl (fun _ => rfl) (fun _ => rfl) (Nat.le_of_ble_eq_true rfl) dX7_init_147 hq rfl ?_
  refine z_aload_n 0 dX7_init_150 rfl rfl ?_
  refine z_bipush 20 dX7_init_151 (by decide) ?_
  refine n_ints 20 (t' := [.inl (.int, 400, .inl (fun _ => 0)), .inl (.boolean, 2, .inl (fun _ => 0)), .inl (.int, 16, .inl (fun _ => 0)), .inl (.int, 16, .inl (fun _ => 0)), .inl (.int, 16, .inl (fun _ => 0)), .inl (.int, 16, .inl (fun _ => 0)), .inl (.int, 4, .inl (fun _ => 0)), .inl (.int, 8, .inl (fun _ => 0)), .inl (.int, 400, .inl (fun _ => 0)), .inl (.int, 8, .inl (fun _ => 0)), .inl (.int, 8, .inl (fun _ => 0)), .inl (.int, 8, .inl (fun _ => 0)), .inl (.int, 8, .inl (fun _ => 0)), .inl (.int, 1024, .inl (fun _ => 0)), .inl (.int, 1024, .inl (fun _ => 0)), .inl (.int, 20, .inl (fun _ => 0)), .inl (.int, 20, .inl (fun _ => 0))]) (qq := q + 17) (by decide) (by decide) (by decide) hq hl (Nat.le_of_ble_eq_true rfl) rfl rfl (Nat.le_of_ble_eq_true rfl) (Nat.le_of_ble_eq_true rfl) dX7_init_153 ?_
  refine n_putF (fs' := [.ref (q + 1), .ref (q + 2), .int 6, .int 2, .ref (q + 3), .ref (q + 4), .ref (q + 5), .ref (q + 6), .ref (q + 7), .ref (q + 8), .int 0, .ref (q + 9), .int 0, .int 0, .int 0, .int 0, .int 0, .int (-1), .int 0, .int 0, .int 0, .ref (q + 10), .ref (q + 11), .ref (q + 12), .ref (q + 13), .int 0, .ref (q + 14), .ref (q + 15), .ref (q + 16), .ref (q + 17), .int 0]) fX7_69 (fun C T N h => by cases h; rfl) (fun C T N h => by cases h; exact (show Cond.fieldLink RX7 69 RX7 "bookYard" "[I" ∈ zT from (zt4 (i := 60) (by decide +kernel) rfl))) rfl (fun _ => rfl) (fun _ => rfl) (Nat.le_of_ble_eq_true rfl) dX7_init_155 hq rfl ?_
  refine z_aload_n 0 dX7_init_158 rfl rfl ?_
  refine n_get fX7_39 dX7_init_159 hq rfl ?_
  refine z_iconst 0 dX7_init_162 (by decide) ?_
  refine z_iconst 0 dX7_init_163 (by decide) ?_
  refine n_iast (j := 7) (t' := [.inl (.int, 400, .inl (fun _ => 0)), .inl (.boolean, 2, .inl (fun _ => 0)), .inl (.int, 16, .inl (fun _ => 0)), .inl (.int, 16, .inl (fun _ => 0)), .inl (.int, 16, .inl (fun _ => 0)), .inl (.int, 16, .inl (fun _ => 0)), .inl (.int, 4, .inl (fun _ => 0)), .inl (.int, 8, .inl (upd (fun _ => 0) 0 0)), .inl (.int, 400, .inl (fun _ => 0)), .inl (.int, 8, .inl (fun _ => 0)), .inl (.int, 8, .inl (fun _ => 0)), .inl (.int, 8, .inl (fun _ => 0)), .inl (.int, 8, .inl (fun _ => 0)), .inl (.int, 1024, .inl (fun _ => 0)), .inl (.int, 1024, .inl (fun _ => 0)), .inl (.int, 20, .inl (fun _ => 0)), .inl (.int, 20, .inl (fun _ => 0))]) dX7_init_164 hq rfl rfl (by unfold vp_in; decide) rfl ?_
  refine z_aload_n 0 dX7_init_165 rfl rfl ?_
  refine n_get fX7_39 dX7_init_166 hq rfl ?_
  refine z_iconst 1 dX7_init_169 (by decide) ?_
  refine z_iconst 1 dX7_init_170 (by decide) ?_
  refine n_iast (j := 7) (t' := [.inl (.int, 400, .inl (fun _ => 0)), .inl (.boolean, 2, .inl (fun _ => 0)), .inl (.int, 16, .inl (fun _ => 0)), .inl (.int, 16, .inl (fun _ => 0)), .inl (.int, 16, .inl (fun _ => 0)), .inl (.int, 16, .inl (fun _ => 0)), .inl (.int, 4, .inl (fun _ => 0)), .inl (.int, 8, .inl (upd (upd (fun _ => 0) 0 0) 1 1)), .inl (.int, 400, .inl (fun _ => 0)), .inl (.int, 8, .inl (fun _ => 0)), .inl (.int, 8, .inl (fun _ => 0)), .inl (.int, 8, .inl (fun _ => 0)), .inl (.int, 8, .inl (fun _ => 0)), .inl (.int, 1024, .inl (fun _ => 0)), .inl (.int, 1024, .inl (fun _ => 0)), .inl (.int, 20, .inl (fun _ => 0)), .inl (.int, 20, .inl (fun _ => 0))]) dX7_init_171 hq rfl rfl (by unfold vp_in; decide) rfl ?_
  refine z_aload_n 0 dX7_init_172 rfl rfl ?_
  refine z_iconst 2 dX7_init_173 (by decide) ?_
  refine n_put (fs' := [.ref (q + 1), .ref (q + 2), .int 6, .int 2, .ref (q + 3), .ref (q + 4), .ref (q + 5), .ref (q + 6), .ref (q + 7), .ref (q + 8), .int 2, .ref (q + 9), .int 0, .int 0, .int 0, .int 0, .int 0, .int (-1), .int 0, .int 0, .int 0, .ref (q + 10), .ref (q + 11), .ref (q + 12), .ref (q + 13), .int 0, .ref (q + 14), .ref (q + 15), .ref (q + 16), .ref (q + 17), .int 0]) fX7_72 (fun _ => rfl) (fun _ => rfl) (Nat.le_of_ble_eq_true rfl) dX7_init_174 hq rfl ?_
  exact z_vret dX7_init_177 rfl (Nat.le_of_ble_eq_true rfl) (Nat.le_of_ble_eq_true rfl) ⟨rfl, rfl⟩
set_option maxRecDepth 100000 in
def mc0 : zmem := fun a b => if a = 1 ∧ b = 4 then -1 else 0
set_option maxRecDepth 100000 in
def mc1 : zmem := ssettle (sadd (sadd mc0 3 0) 3 1) 7
set_option maxRecDepth 100000 in
theorem isPar7c : isParc 7 := ⟨rfl, rfl, rfl, rfl, rfl, rfl, rfl, rfl, rfl, rfl⟩
set_option maxRecDepth 100000 in
theorem isCus3c : isCusc 3 := ⟨rfl, rfl⟩
set_option maxRecDepth 100000 in
theorem cn6 (hl : 0 + 100 < zE0) : Ev MX6_init 3 56 943 [.ref 0] [.inr (6, [.null, .null, .null, .null, .null, .null, .null, .int 0, .int 0, .null, .null, .null])] (fun o h => o = none ∧ h = hpC mc1) := by
  refine Ev.of (by decide) (Nat.le_of_ble_eq_true rfl) ?_
  show Z _ 0 [(0, .ref 0)] _ (([] : zH) ++ .inr (6, [.null, .null, .null, .null, .null, .null, .null, .int 0, .int 0, .null, .null, .null]) :: []) _ _
  refine z_aload_n 0 dX6_init_0 rfl rfl ?_
  refine z_objInit oX6_1 zh_oi zh_oc dX6_init_1 (Nat.le_of_ble_eq_true rfl) (Nat.le_of_ble_eq_true rfl) ?_
  refine z_aload_n 0 dX6_init_4 rfl rfl ?_
  refine n_new (d := 1) (mc := 1) (ms := 400) (t1 := n5t 1) (qq := 1) nwX6_7 kX6_9 (h0 := []) rfl hl (Nat.le_of_ble_eq_true rfl) rfl (fun h1 h2 => cn5t h2 (by decide)) dX6_init_5 dX6_init_8 dX6_init_9 (Nat.le_of_ble_eq_true rfl) (Nat.le_of_ble_eq_true rfl) (Nat.le_of_ble_eq_true rfl) (Nat.le_of_ble_eq_true rfl) ?_
  refine n_heap (h' := ([] : zH) ++ .inr (6, [.null, .null, .null, .null, .null, .null, .null, .int 0, .int 0, .null, .null, .null]) :: [.inr (5, [.ref 2, .int 0, .int 0, .int 0, .int (-1)]), .inl (.byte, 400, .inl (fun _ => 0))]) rfl ?_
  refine n_putF (fs' := [.ref 1, .null, .null, .null, .null, .null, .null, .int 0, .int 0, .null, .null, .null]) fX6_10 (fun C T N h => by cases h; rfl) (fun C T N h => by cases h; exact (show Cond.fieldLink RX6 10 RX6 "text" "LLoftGraves$Text;" ∈ zT from (zt1 (i := 219) (by decide +kernel) rfl))) rfl (fun _ => rfl) (fun _ => rfl) (Nat.le_of_ble_eq_true rfl) dX6_init_12 (h0 := []) (q := 0) rfl rfl ?_
  refine z_aload_n 0 dX6_init_15 rfl rfl ?_
  refine n_new (d := 1) (mc := 1) (ms := 4) (t1 := n1c 3) (qq := 3) nwX6_16 kX6_18 (h0 := []) rfl hl (Nat.le_of_ble_eq_true rfl) rfl (fun h1 h2 => cn1c h2 (by decide)) dX6_init_16 dX6_init_19 dX6_init_20 (Nat.le_of_ble_eq_true rfl) (Nat.le_of_ble_eq_true rfl) (Nat.le_of_ble_eq_true rfl) (Nat.le_of_ble_eq_true rfl) ?_
  refine n_heap (h' := ([] : zH) ++ .inr (6, [.ref 1, .null, .null, .null, .null, .null, .null, .int 0, .int 0, .null, .null, .null]) :: [.inr (5, [.ref 2, .int 0, .int 0, .int 0, .int (-1)]), .inl (.byte, 400, .inl (fun _ => 0)), .inr (1, [.ref 4, .int 0]), .inl (.int, 4, .inl (fun _ => 0))]) rfl ?_
  refine n_putF (fs' := [.ref 1, .ref 3, .null, .null, .null, .null, .null, .int 0, .int 0, .null, .null, .null]) fX6_19 (fun C T N h => by cases h; rfl) (fun C T N h => by cases h; exact (show Cond.fieldLink RX6 19 RX6 "rules" "LLoftGraves$Custom;" ∈ zT from (zt1 (i := 220) (by decide +kernel) rfl))) rfl (fun _ => rfl) (fun _ => rfl) (Nat.le_of_ble_eq_true rfl) dX6_init_23 (h0 := []) (q := 0) rfl rfl ?_
  refine z_aload_n 0 dX6_init_26 rfl rfl ?_
  refine n_new (d := 1) (mc := 1) (ms := 4) (t1 := n1c 5) (qq := 5) nwX6_16 kX6_18 (h0 := []) rfl hl (Nat.le_of_ble_eq_true rfl) rfl (fun h1 h2 => cn1c h2 (by decide)) dX6_init_27 dX6_init_30 dX6_init_31 (Nat.le_of_ble_eq_true rfl) (Nat.le_of_ble_eq_true rfl) (Nat.le_of_ble_eq_true rfl) (Nat.le_of_ble_eq_true rfl) ?_
  refine n_heap (h' := ([] : zH) ++ .inr (6, [.ref 1, .ref 3, .null, .null, .null, .null, .null, .int 0, .int 0, .null, .null, .null]) :: [.inr (5, [.ref 2, .int 0, .int 0, .int 0, .int (-1)]), .inl (.byte, 400, .inl (fun _ => 0)), .inr (1, [.ref 4, .int 0]), .inl (.int, 4, .inl (fun _ => 0)), .inr (1, [.ref 6, .int 0]), .inl (.int, 4, .inl (fun _ => 0))]) rfl ?_
  refine n_putF (fs' := [.ref 1, .ref 3, .ref 5, .null, .null, .null, .null, .int 0, .int 0, .null, .null, .null]) fX6_23 (fun C T N h => by cases h; rfl) (fun C T N h => by cases h; exact (show Cond.fieldLink RX6 23 RX6 "rulesDraft" "LLoftGraves$Custom;" ∈ zT from (zt1 (i := 221) (by decide +kernel) rfl))) rfl (fun _ => rfl) (fun _ => rfl) (Nat.le_of_ble_eq_true rfl) dX6_init_34 (h0 := []) (q := 0) rfl rfl ?_
  refine z_aload_n 0 dX6_init_37 rfl rfl ?_
  refine n_new (d := 1) (mc := 9) (ms := 64) (t1 := n3p 7) (qq := 7) nwX6_26 kX6_28 (h0 := []) rfl hl (Nat.le_of_ble_eq_true rfl) rfl (fun h1 h2 => cn3p h2 (by decide)) dX6_init_38 dX6_init_41 dX6_init_42 (Nat.le_of_ble_eq_true rfl) (Nat.le_of_ble_eq_true rfl) (Nat.le_of_ble_eq_true rfl) (Nat.le_of_ble_eq_true rfl) ?_
  refine n_heap (h' := ([] : zH) ++ .inr (6, [.ref 1, .ref 3, .ref 5, .null, .null, .null, .null, .int 0, .int 0, .null, .null, .null]) :: [.inr (5, [.ref 2, .int 0, .int 0, .int 0, .int (-1)]), .inl (.byte, 400, .inl (fun _ => 0)), .inr (1, [.ref 4, .int 0]), .inl (.int, 4, .inl (fun _ => 0)), .inr (1, [.ref 6, .int 0]), .inl (.int, 4, .inl (fun _ => 0)), .inr (3, [.int 0, .int 0, .int 0, .int 0, .ref 8, .ref 9, .ref 10, .ref 11, .ref 12, .ref 13, .ref 14, .ref 15, .ref 16, .int 0, .int 0, .int 0]), .inl (.int, 8, .inl (fun _ => 0)), .inl (.int, 7, .inl (fun _ => 0)), .inl (.int, 7, .inl (fun _ => 0)), .inl (.int, 7, .inl (fun _ => 0)), .inl (.int, 7, .inl (fun _ => 0)), .inl (.int, 7, .inl (fun _ => 0)), .inl (.int, 7, .inl (fun _ => 0)), .inl (.int, 7, .inl (fun _ => 0)), .inl (.int, 7, .inl (fun _ => 0))]) rfl ?_
  refine n_putF (fs' := [.ref 1, .ref 3, .ref 5, .ref 7, .null, .null, .null, .int 0, .int 0, .null, .null, .null]) fX6_29 (fun C T N h => by cases h; rfl) (fun C T N h => by cases h; exact (show Cond.fieldLink RX6 29 RX6 "now" "LLoftGraves$Parish;" ∈ zT from (zt1 (i := 222) (by decide +kernel) rfl))) rfl (fun _ => rfl) (fun _ => rfl) (Nat.le_of_ble_eq_true rfl) dX6_init_45 (h0 := []) (q := 0) rfl rfl ?_
  refine z_aload_n 0 dX6_init_48 rfl rfl ?_
  refine n_new (d := 1) (mc := 9) (ms := 64) (t1 := n3p 17) (qq := 17) nwX6_26 kX6_28 (h0 := []) rfl hl (Nat.le_of_ble_eq_true rfl) rfl (fun h1 h2 => cn3p h2 (by decide)) dX6_init_49 dX6_init_52 dX6_init_53 (Nat.le_of_ble_eq_true rfl) (Nat.le_of_ble_eq_true rfl) (Nat.le_of_ble_eq_true rfl) (Nat.le_of_ble_eq_true rfl) ?_
  refine n_heap (h' := ([] : zH) ++ .inr (6, [.ref 1, .ref 3, .ref 5, .ref 7, .null, .null, .null, .int 0, .int 0, .null, .null, .null]) :: [.inr (5, [.ref 2, .int 0, .int 0, .int 0, .int (-1)]), .inl (.byte, 400, .inl (fun _ => 0)), .inr (1, [.ref 4, .int 0]), .inl (.int, 4, .inl (fun _ => 0)), .inr (1, [.ref 6, .int 0]), .inl (.int, 4, .inl (fun _ => 0)), .inr (3, [.int 0, .int 0, .int 0, .int 0, .ref 8, .ref 9, .ref 10, .ref 11, .ref 12, .ref 13, .ref 14, .ref 15, .ref 16, .int 0, .int 0, .int 0]), .inl (.int, 8, .inl (fun _ => 0)), .inl (.int, 7, .inl (fun _ => 0)), .inl (.int, 7, .inl (fun _ => 0)), .inl (.int, 7, .inl (fun _ => 0)), .inl (.int, 7, .inl (fun _ => 0)), .inl (.int, 7, .inl (fun _ => 0)), .inl (.int, 7, .inl (fun _ => 0)), .inl (.int, 7, .inl (fun _ => 0)), .inl (.int, 7, .inl (fun _ => 0)), .inr (3, [.int 0, .int 0, .int 0, .int 0, .ref 18, .ref 19, .ref 20, .ref 21, .ref 22, .ref 23, .ref 24, .ref 25, .ref 26, .int 0, .int 0, .int 0]), .inl (.int, 8, .inl (fun _ => 0)), .inl (.int, 7, .inl (fun _ => 0)), .inl (.int, 7, .inl (fun _ => 0)), .inl (.int, 7, .inl (fun _ => 0)), .inl (.int, 7, .inl (fun _ => 0)), .inl (.int, 7, .inl (fun _ => 0)), .inl (.int, 7, .inl (fun _ => 0)), .inl (.int, 7, .inl (fun _ => 0)), .inl (.int, 7, .inl (fun _ => 0))]) rfl ?_
  refine n_putF (fs' := [.ref 1, .ref 3, .ref 5, .ref 7, .ref 17, .null, .null, .int 0, .int 0, .null, .null, .null]) fX6_33 (fun C T N h => by cases h; rfl) (fun C T N h => by cases h; exact (show Cond.fieldLink RX6 33 RX6 "draft" "LLoftGraves$Parish;" ∈ zT from (zt1 (i := 223) (by decide +kernel) rfl))) rfl (fun _ => rfl) (fun _ => rfl) (Nat.le_of_ble_eq_true rfl) dX6_init_56 (h0 := []) (q := 0) rfl rfl ?_
  refine z_aload_n 0 dX6_init_59 rfl rfl ?_
  refine n_new (d := 1) (mc := 9) (ms := 64) (t1 := n3p 27) (qq := 27) nwX6_26 kX6_28 (h0 := []) rfl hl (Nat.le_of_ble_eq_true rfl) rfl (fun h1 h2 => cn3p h2 (by decide)) dX6_init_60 dX6_init_63 dX6_init_64 (Nat.le_of_ble_eq_true rfl) (Nat.le_of_ble_eq_true rfl) (Nat.le_of_ble_eq_true rfl) (Nat.le_of_ble_eq_true rfl) ?_
  refine n_heap (h' := ([] : zH) ++ .inr (6, [.ref 1, .ref 3, .ref 5, .ref 7, .ref 17, .null, .null, .int 0, .int 0, .null, .null, .null]) :: [.inr (5, [.ref 2, .int 0, .int 0, .int 0, .int (-1)]), .inl (.byte, 400, .inl (fun _ => 0)), .inr (1, [.ref 4, .int 0]), .inl (.int, 4, .inl (fun _ => 0)), .inr (1, [.ref 6, .int 0]), .inl (.int, 4, .inl (fun _ => 0)), .inr (3, [.int 0, .int 0, .int 0, .int 0, .ref 8, .ref 9, .ref 10, .ref 11, .ref 12, .ref 13, .ref 14, .ref 15, .ref 16, .int 0, .int 0, .int 0]), .inl (.int, 8, .inl (fun _ => 0)), .inl (.int, 7, .inl (fun _ => 0)), .inl (.int, 7, .inl (fun _ => 0)), .inl (.int, 7, .inl (fun _ => 0)), .inl (.int, 7, .inl (fun _ => 0)), .inl (.int, 7, .inl (fun _ => 0)), .inl (.int, 7, .inl (fun _ => 0)), .inl (.int, 7, .inl (fun _ => 0)), .inl (.int, 7, .inl (fun _ => 0)), .inr (3, [.int 0, .int 0, .int 0, .int 0, .ref 18, .ref 19, .ref 20, .ref 21, .ref 22, .ref 23, .ref 24, .ref 25, .ref 26, .int 0, .int 0, .int 0]), .inl (.int, 8, .inl (fun _ => 0)), .inl (.int, 7, .inl (fun _ => 0)), .inl (.int, 7, .inl (fun _ => 0)), .inl (.int, 7, .inl (fun _ => 0)), .inl (.int, 7, .inl (fun _ => 0)), .inl (.int, 7, .inl (fun _ => 0)), .inl (.int, 7, .inl (fun _ => 0)), .inl (.int, 7, .inl (fun _ => 0)), .inl (.int, 7, .inl (fun _ => 0)), .inr (3, [.int 0, .int 0, .int 0, .int 0, .ref 28, .ref 29, .ref 30, .ref 31, .ref 32, .ref 33, .ref 34, .ref 35, .ref 36, .int 0, .int 0, .int 0]), .inl (.int, 8, .inl (fun _ => 0)), .inl (.int, 7, .inl (fun _ => 0)), .inl (.int, 7, .inl (fun _ => 0)), .inl (.int, 7, .inl (fun _ => 0)), .inl (.int, 7, .inl (fun _ => 0)), .inl (.int, 7, .inl (fun _ => 0)), .inl (.int, 7, .inl (fun _ => 0)), .inl (.int, 7, .inl (fun _ => 0)), .inl (.int, 7, .inl (fun _ => 0))]) rfl ?_
  refine n_putF (fs' := [.ref 1, .ref 3, .ref 5, .ref 7, .ref 17, .ref 27, .null, .int 0, .int 0, .null, .null, .null]) fX6_36 (fun C T N h => by cases h; rfl) (fun C T N h => by cases h; exact (show Cond.fieldLink RX6 36 RX6 "firstImage" "LLoftGraves$Parish;" ∈ zT from (zt1 (i := 224) (by decide +kernel) rfl))) rfl (fun _ => rfl) (fun _ => rfl) (Nat.le_of_ble_eq_true rfl) dX6_init_67 (h0 := []) (q := 0) rfl rfl ?_
  refine z_aload_n 0 dX6_init_70 rfl rfl ?_
  refine n_new (d := 1) (mc := 9) (ms := 64) (t1 := n3p 37) (qq := 37) nwX6_26 kX6_28 (h0 := []) rfl hl (Nat.le_of_ble_eq_true rfl) rfl (fun h1 h2 => cn3p h2 (by decide)) dX6_init_71 dX6_init_74 dX6_init_75 (Nat.le_of_ble_eq_true rfl) (Nat.le_of_ble_eq_true rfl) (Nat.le_of_ble_eq_true rfl) (Nat.le_of_ble_eq_true rfl) ?_
  refine n_heap (h' := ([] : zH) ++ .inr (6, [.ref 1, .ref 3, .ref 5, .ref 7, .ref 17, .ref 27, .null, .int 0, .int 0, .null, .null, .null]) :: [.inr (5, [.ref 2, .int 0, .int 0, .int 0, .int (-1)]), .inl (.byte, 400, .inl (fun _ => 0)), .inr (1, [.ref 4, .int 0]), .inl (.int, 4, .inl (fun _ => 0)), .inr (1, [.ref 6, .int 0]), .inl (.int, 4, .inl (fun _ => 0)), .inr (3, [.int 0, .int 0, .int 0, .int 0, .ref 8, .ref 9, .ref 10, .ref 11, .ref 12, .ref 13, .ref 14, .ref 15, .ref 16, .int 0, .int 0, .int 0]), .inl (.int, 8, .inl (fun _ => 0)), .inl (.int, 7, .inl (fun _ => 0)), .inl (.int, 7, .inl (fun _ => 0)), .inl (.int, 7, .inl (fun _ => 0)), .inl (.int, 7, .inl (fun _ => 0)), .inl (.int, 7, .inl (fun _ => 0)), .inl (.int, 7, .inl (fun _ => 0)), .inl (.int, 7, .inl (fun _ => 0)), .inl (.int, 7, .inl (fun _ => 0)), .inr (3, [.int 0, .int 0, .int 0, .int 0, .ref 18, .ref 19, .ref 20, .ref 21, .ref 22, .ref 23, .ref 24, .ref 25, .ref 26, .int 0, .int 0, .int 0]), .inl (.int, 8, .inl (fun _ => 0)), .inl (.int, 7, .inl (fun _ => 0)), .inl (.int, 7, .inl (fun _ => 0)), .inl (.int, 7, .inl (fun _ => 0)), .inl (.int, 7, .inl (fun _ => 0)), .inl (.int, 7, .inl (fun _ => 0)), .inl (.int, 7, .inl (fun _ => 0)), .inl (.int, 7, .inl (fun _ => 0)), .inl (.int, 7, .inl (fun _ => 0)), .inr (3, [.int 0, .int 0, .int 0, .int 0, .ref 28, .ref 29, .ref 30, .ref 31, .ref 32, .ref 33, .ref 34, .ref 35, .ref 36, .int 0, .int 0, .int 0]), .inl (.int, 8, .inl (fun _ => 0)), .inl (.int, 7, .inl (fun _ => 0)), .inl (.int, 7, .inl (fun _ => 0)), .inl (.int, 7, .inl (fun _ => 0)), .inl (.int, 7, .inl (fun _ => 0)), .inl (.int, 7, .inl (fun _ => 0)), .inl (.int, 7, .inl (fun _ => 0)), .inl (.int, 7, .inl (fun _ => 0)), .inl (.int, 7, .inl (fun _ => 0)), .inr (3, [.int 0, .int 0, .int 0, .int 0, .ref 38, .ref 39, .ref 40, .ref 41, .ref 42, .ref 43, .ref 44, .ref 45, .ref 46, .int 0, .int 0, .int 0]), .inl (.int, 8, .inl (fun _ => 0)), .inl (.int, 7, .inl (fun _ => 0)), .inl (.int, 7, .inl (fun _ => 0)), .inl (.int, 7, .inl (fun _ => 0)), .inl (.int, 7, .inl (fun _ => 0)), .inl (.int, 7, .inl (fun _ => 0)), .inl (.int, 7, .inl (fun _ => 0)), .inl (.int, 7, .inl (fun _ => 0)), .inl (.int, 7, .inl (fun _ => 0))]) rfl ?_
  refine n_putF (fs' := [.ref 1, .ref 3, .ref 5, .ref 7, .ref 17, .ref 27, .ref 37, .int 0, .int 0, .null, .null, .null]) fX6_39 (fun C T N h => by cases h; rfl) (fun C T N h => by cases h; exact (show Cond.fieldLink RX6 39 RX6 "secondImage" "LLoftGraves$Parish;" ∈ zT from (zt1 (i := 225) (by decide +kernel) rfl))) rfl (fun _ => rfl) (fun _ => rfl) (Nat.le_of_ble_eq_true rfl) dX6_init_78 (h0 := []) (q := 0) rfl rfl ?_
  refine z_aload_n 0 dX6_init_81 rfl rfl ?_
  refine z_iconst 0 dX6_init_82 (by decide) ?_
  refine n_put (fs' := [.ref 1, .ref 3, .ref 5, .ref 7, .ref 17, .ref 27, .ref 37, .int 0, .int 0, .null, .null, .null]) fX6_42 (fun _ => rfl) (fun _ => rfl) (Nat.le_of_ble_eq_true rfl) dX6_init_83 (h0 := []) (q := 0) rfl rfl ?_
  refine z_aload_n 0 dX6_init_86 rfl rfl ?_
  refine z_iconst 0 dX6_init_87 (by decide) ?_
  refine n_put (fs' := [.ref 1, .ref 3, .ref 5, .ref 7, .ref 17, .ref 27, .ref 37, .int 0, .int 0, .null, .null, .null]) fX6_46 (fun _ => rfl) (fun _ => rfl) (Nat.le_of_ble_eq_true rfl) dX6_init_88 (h0 := []) (q := 0) rfl rfl ?_
  refine z_aload_n 0 dX6_init_91 rfl rfl ?_
  refine n_new (d := 1) (mc := 2) (ms := 40) (t1 := n0b 47) (qq := 47) nwX6_49 kX6_51 (h0 := []) rfl hl (Nat.le_of_ble_eq_true rfl) rfl (fun h1 h2 => cn0b h2 (by decide)) dX6_init_92 dX6_init_95 dX6_init_96 (Nat.le_of_ble_eq_true rfl) (Nat.le_of_ble_eq_true rfl) (Nat.le_of_ble_eq_true rfl) (Nat.le_of_ble_eq_true rfl) ?_
  refine n_heap (h' := ([] : zH) ++ .inr (6, [.ref 1, .ref 3, .ref 5, .ref 7, .ref 17, .ref 27, .ref 37, .int 0, .int 0, .null, .null, .null]) :: [.inr (5, [.ref 2, .int 0, .int 0, .int 0, .int (-1)]), .inl (.byte, 400, .inl (fun _ => 0)), .inr (1, [.ref 4, .int 0]), .inl (.int, 4, .inl (fun _ => 0)), .inr (1, [.ref 6, .int 0]), .inl (.int, 4, .inl (fun _ => 0)), .inr (3, [.int 0, .int 0, .int 0, .int 0, .ref 8, .ref 9, .ref 10, .ref 11, .ref 12, .ref 13, .ref 14, .ref 15, .ref 16, .int 0, .int 0, .int 0]), .inl (.int, 8, .inl (fun _ => 0)), .inl (.int, 7, .inl (fun _ => 0)), .inl (.int, 7, .inl (fun _ => 0)), .inl (.int, 7, .inl (fun _ => 0)), .inl (.int, 7, .inl (fun _ => 0)), .inl (.int, 7, .inl (fun _ => 0)), .inl (.int, 7, .inl (fun _ => 0)), .inl (.int, 7, .inl (fun _ => 0)), .inl (.int, 7, .inl (fun _ => 0)), .inr (3, [.int 0, .int 0, .int 0, .int 0, .ref 18, .ref 19, .ref 20, .ref 21, .ref 22, .ref 23, .ref 24, .ref 25, .ref 26, .int 0, .int 0, .int 0]), .inl (.int, 8, .inl (fun _ => 0)), .inl (.int, 7, .inl (fun _ => 0)), .inl (.int, 7, .inl (fun _ => 0)), .inl (.int, 7, .inl (fun _ => 0)), .inl (.int, 7, .inl (fun _ => 0)), .inl (.int, 7, .inl (fun _ => 0)), .inl (.int, 7, .inl (fun _ => 0)), .inl (.int, 7, .inl (fun _ => 0)), .inl (.int, 7, .inl (fun _ => 0)), .inr (3, [.int 0, .int 0, .int 0, .int 0, .ref 28, .ref 29, .ref 30, .ref 31, .ref 32, .ref 33, .ref 34, .ref 35, .ref 36, .int 0, .int 0, .int 0]), .inl (.int, 8, .inl (fun _ => 0)), .inl (.int, 7, .inl (fun _ => 0)), .inl (.int, 7, .inl (fun _ => 0)), .inl (.int, 7, .inl (fun _ => 0)), .inl (.int, 7, .inl (fun _ => 0)), .inl (.int, 7, .inl (fun _ => 0)), .inl (.int, 7, .inl (fun _ => 0)), .inl (.int, 7, .inl (fun _ => 0)), .inl (.int, 7, .inl (fun _ => 0)), .inr (3, [.int 0, .int 0, .int 0, .int 0, .ref 38, .ref 39, .ref 40, .ref 41, .ref 42, .ref 43, .ref 44, .ref 45, .ref 46, .int 0, .int 0, .int 0]), .inl (.int, 8, .inl (fun _ => 0)), .inl (.int, 7, .inl (fun _ => 0)), .inl (.int, 7, .inl (fun _ => 0)), .inl (.int, 7, .inl (fun _ => 0)), .inl (.int, 7, .inl (fun _ => 0)), .inl (.int, 7, .inl (fun _ => 0)), .inl (.int, 7, .inl (fun _ => 0)), .inl (.int, 7, .inl (fun _ => 0)), .inl (.int, 7, .inl (fun _ => 0)), .inr (0, [.ref 48, .ref 49, .int 0]), .inl (.int, 20, .inl (fun _ => 0)), .inl (.int, 20, .inl (fun _ => 0))]) rfl ?_
  refine n_putF (fs' := [.ref 1, .ref 3, .ref 5, .ref 7, .ref 17, .ref 27, .ref 37, .int 0, .int 0, .ref 47, .null, .null]) fX6_52 (fun C T N h => by cases h; rfl) (fun C T N h => by cases h; exact (show Cond.fieldLink RX6 52 RX6 "book" "LLoftGraves$Book;" ∈ zT from (zt1 (i := 228) (by decide +kernel) rfl))) rfl (fun _ => rfl) (fun _ => rfl) (Nat.le_of_ble_eq_true rfl) dX6_init_99 (h0 := []) (q := 0) rfl rfl ?_
  refine z_aload_n 0 dX6_init_102 rfl rfl ?_
  refine n_new (d := 1) (mc := 4) (ms := 28) (t1 := n4l 50) (qq := 50) nwX6_56 kX6_58 (h0 := []) rfl hl (Nat.le_of_ble_eq_true rfl) rfl (fun h1 h2 => cn4l h2 (by decide)) dX6_init_103 dX6_init_106 dX6_init_107 (Nat.le_of_ble_eq_true rfl) (Nat.le_of_ble_eq_true rfl) (Nat.le_of_ble_eq_true rfl) (Nat.le_of_ble_eq_true rfl) ?_
  refine n_heap (h' := ([] : zH) ++ .inr (6, [.ref 1, .ref 3, .ref 5, .ref 7, .ref 17, .ref 27, .ref 37, .int 0, .int 0, .ref 47, .null, .null]) :: [.inr (5, [.ref 2, .int 0, .int 0, .int 0, .int (-1)]), .inl (.byte, 400, .inl (fun _ => 0)), .inr (1, [.ref 4, .int 0]), .inl (.int, 4, .inl (fun _ => 0)), .inr (1, [.ref 6, .int 0]), .inl (.int, 4, .inl (fun _ => 0)), .inr (3, [.int 0, .int 0, .int 0, .int 0, .ref 8, .ref 9, .ref 10, .ref 11, .ref 12, .ref 13, .ref 14, .ref 15, .ref 16, .int 0, .int 0, .int 0]), .inl (.int, 8, .inl (fun _ => 0)), .inl (.int, 7, .inl (fun _ => 0)), .inl (.int, 7, .inl (fun _ => 0)), .inl (.int, 7, .inl (fun _ => 0)), .inl (.int, 7, .inl (fun _ => 0)), .inl (.int, 7, .inl (fun _ => 0)), .inl (.int, 7, .inl (fun _ => 0)), .inl (.int, 7, .inl (fun _ => 0)), .inl (.int, 7, .inl (fun _ => 0)), .inr (3, [.int 0, .int 0, .int 0, .int 0, .ref 18, .ref 19, .ref 20, .ref 21, .ref 22, .ref 23, .ref 24, .ref 25, .ref 26, .int 0, .int 0, .int 0]), .inl (.int, 8, .inl (fun _ => 0)), .inl (.int, 7, .inl (fun _ => 0)), .inl (.int, 7, .inl (fun _ => 0)), .inl (.int, 7, .inl (fun _ => 0)), .inl (.int, 7, .inl (fun _ => 0)), .inl (.int, 7, .inl (fun _ => 0)), .inl (.int, 7, .inl (fun _ => 0)), .inl (.int, 7, .inl (fun _ => 0)), .inl (.int, 7, .inl (fun _ => 0)), .inr (3, [.int 0, .int 0, .int 0, .int 0, .ref 28, .ref 29, .ref 30, .ref 31, .ref 32, .ref 33, .ref 34, .ref 35, .ref 36, .int 0, .int 0, .int 0]), .inl (.int, 8, .inl (fun _ => 0)), .inl (.int, 7, .inl (fun _ => 0)), .inl (.int, 7, .inl (fun _ => 0)), .inl (.int, 7, .inl (fun _ => 0)), .inl (.int, 7, .inl (fun _ => 0)), .inl (.int, 7, .inl (fun _ => 0)), .inl (.int, 7, .inl (fun _ => 0)), .inl (.int, 7, .inl (fun _ => 0)), .inl (.int, 7, .inl (fun _ => 0)), .inr (3, [.int 0, .int 0, .int 0, .int 0, .ref 38, .ref 39, .ref 40, .ref 41, .ref 42, .ref 43, .ref 44, .ref 45, .ref 46, .int 0, .int 0, .int 0]), .inl (.int, 8, .inl (fun _ => 0)), .inl (.int, 7, .inl (fun _ => 0)), .inl (.int, 7, .inl (fun _ => 0)), .inl (.int, 7, .inl (fun _ => 0)), .inl (.int, 7, .inl (fun _ => 0)), .inl (.int, 7, .inl (fun _ => 0)), .inl (.int, 7, .inl (fun _ => 0)), .inl (.int, 7, .inl (fun _ => 0)), .inl (.int, 7, .inl (fun _ => 0)), .inr (0, [.ref 48, .ref 49, .int 0]), .inl (.int, 20, .inl (fun _ => 0)), .inl (.int, 20, .inl (fun _ => 0)), .inr (4, [.ref 51, .ref 52, .ref 53, .ref 54, .int 0, .int 0]), .inl (.int, 7, .inl (fun _ => 0)), .inl (.int, 7, .inl (fun _ => 0)), .inl (.int, 7, .inl (fun _ => 0)), .inl (.int, 7, .inl (fun _ => 0))]) rfl ?_
  refine n_putF (fs' := [.ref 1, .ref 3, .ref 5, .ref 7, .ref 17, .ref 27, .ref 37, .int 0, .int 0, .ref 47, .ref 50, .null]) fX6_59 (fun C T N h => by cases h; rfl) (fun C T N h => by cases h; exact (show Cond.fieldLink RX6 59 RX6 "plan" "LLoftGraves$Plan;" ∈ zT from (zt1 (i := 229) (by decide +kernel) rfl))) rfl (fun _ => rfl) (fun _ => rfl) (Nat.le_of_ble_eq_true rfl) dX6_init_110 (h0 := []) (q := 0) rfl rfl ?_
  refine z_aload_n 0 dX6_init_113 rfl rfl ?_
  refine n_new (d := 1) (mc := 1) (ms := 128) (t1 := n2n 55) (qq := 55) nwX6_63 kX6_65 (h0 := []) rfl hl (Nat.le_of_ble_eq_true rfl) rfl (fun h1 h2 => cn2n h2 (by decide)) dX6_init_114 dX6_init_117 dX6_init_118 (Nat.le_of_ble_eq_true rfl) (Nat.le_of_ble_eq_true rfl) (Nat.le_of_ble_eq_true rfl) (Nat.le_of_ble_eq_true rfl) ?_
  refine n_heap (h' := ([] : zH) ++ .inr (6, [.ref 1, .ref 3, .ref 5, .ref 7, .ref 17, .ref 27, .ref 37, .int 0, .int 0, .ref 47, .ref 50, .null]) :: [.inr (5, [.ref 2, .int 0, .int 0, .int 0, .int (-1)]), .inl (.byte, 400, .inl (fun _ => 0)), .inr (1, [.ref 4, .int 0]), .inl (.int, 4, .inl (fun _ => 0)), .inr (1, [.ref 6, .int 0]), .inl (.int, 4, .inl (fun _ => 0)), .inr (3, [.int 0, .int 0, .int 0, .int 0, .ref 8, .ref 9, .ref 10, .ref 11, .ref 12, .ref 13, .ref 14, .ref 15, .ref 16, .int 0, .int 0, .int 0]), .inl (.int, 8, .inl (fun _ => 0)), .inl (.int, 7, .inl (fun _ => 0)), .inl (.int, 7, .inl (fun _ => 0)), .inl (.int, 7, .inl (fun _ => 0)), .inl (.int, 7, .inl (fun _ => 0)), .inl (.int, 7, .inl (fun _ => 0)), .inl (.int, 7, .inl (fun _ => 0)), .inl (.int, 7, .inl (fun _ => 0)), .inl (.int, 7, .inl (fun _ => 0)), .inr (3, [.int 0, .int 0, .int 0, .int 0, .ref 18, .ref 19, .ref 20, .ref 21, .ref 22, .ref 23, .ref 24, .ref 25, .ref 26, .int 0, .int 0, .int 0]), .inl (.int, 8, .inl (fun _ => 0)), .inl (.int, 7, .inl (fun _ => 0)), .inl (.int, 7, .inl (fun _ => 0)), .inl (.int, 7, .inl (fun _ => 0)), .inl (.int, 7, .inl (fun _ => 0)), .inl (.int, 7, .inl (fun _ => 0)), .inl (.int, 7, .inl (fun _ => 0)), .inl (.int, 7, .inl (fun _ => 0)), .inl (.int, 7, .inl (fun _ => 0)), .inr (3, [.int 0, .int 0, .int 0, .int 0, .ref 28, .ref 29, .ref 30, .ref 31, .ref 32, .ref 33, .ref 34, .ref 35, .ref 36, .int 0, .int 0, .int 0]), .inl (.int, 8, .inl (fun _ => 0)), .inl (.int, 7, .inl (fun _ => 0)), .inl (.int, 7, .inl (fun _ => 0)), .inl (.int, 7, .inl (fun _ => 0)), .inl (.int, 7, .inl (fun _ => 0)), .inl (.int, 7, .inl (fun _ => 0)), .inl (.int, 7, .inl (fun _ => 0)), .inl (.int, 7, .inl (fun _ => 0)), .inl (.int, 7, .inl (fun _ => 0)), .inr (3, [.int 0, .int 0, .int 0, .int 0, .ref 38, .ref 39, .ref 40, .ref 41, .ref 42, .ref 43, .ref 44, .ref 45, .ref 46, .int 0, .int 0, .int 0]), .inl (.int, 8, .inl (fun _ => 0)), .inl (.int, 7, .inl (fun _ => 0)), .inl (.int, 7, .inl (fun _ => 0)), .inl (.int, 7, .inl (fun _ => 0)), .inl (.int, 7, .inl (fun _ => 0)), .inl (.int, 7, .inl (fun _ => 0)), .inl (.int, 7, .inl (fun _ => 0)), .inl (.int, 7, .inl (fun _ => 0)), .inl (.int, 7, .inl (fun _ => 0)), .inr (0, [.ref 48, .ref 49, .int 0]), .inl (.int, 20, .inl (fun _ => 0)), .inl (.int, 20, .inl (fun _ => 0)), .inr (4, [.ref 51, .ref 52, .ref 53, .ref 54, .int 0, .int 0]), .inl (.int, 7, .inl (fun _ => 0)), .inl (.int, 7, .inl (fun _ => 0)), .inl (.int, 7, .inl (fun _ => 0)), .inl (.int, 7, .inl (fun _ => 0)), .inr (2, [.ref 56]), .inl (.int, 128, .inl (fun _ => 0))]) rfl ?_
  refine n_putF (fs' := [.ref 1, .ref 3, .ref 5, .ref 7, .ref 17, .ref 27, .ref 37, .int 0, .int 0, .ref 47, .ref 50, .ref 55]) fX6_66 (fun C T N h => by cases h; rfl) (fun C T N h => by cases h; exact (show Cond.fieldLink RX6 66 RX6 "naming" "LLoftGraves$Naming;" ∈ zT from (zt1 (i := 230) (by decide +kernel) rfl))) rfl (fun _ => rfl) (fun _ => rfl) (Nat.le_of_ble_eq_true rfl) dX6_init_121 (h0 := []) (q := 0) rfl rfl ?_
  refine n_heap (h' := hpC mc0) rfl ?_
  refine z_aload_n 0 dX6_init_124 rfl rfl ?_
  refine yc_getR fX6_19 dX6_init_125 (q := 0) rfl rfl ?_
  refine z_iconst 0 dX6_init_128 (by decide) ?_
  refine yc_V0 [_] _ kX6_70 (cc_addC isCus3c) rfl isCus3c.1 dX6_init_129 rfl rfl (Nat.le_of_ble_eq_true rfl) (Nat.le_of_ble_eq_true rfl) ⟨Nat.le_of_ble_eq_true rfl, Nat.le_of_ble_eq_true rfl⟩ ?_
  refine z_aload_n 0 dX6_init_132 rfl rfl ?_
  refine yc_getR fX6_19 dX6_init_133 (q := 0) rfl rfl ?_
  refine z_iconst 1 dX6_init_136 (by decide) ?_
  refine yc_V0 [_] _ kX6_70 (cc_addC isCus3c) rfl isCus3c.1 dX6_init_137 rfl rfl (Nat.le_of_ble_eq_true rfl) (Nat.le_of_ble_eq_true rfl) ⟨Nat.le_of_ble_eq_true rfl, Nat.le_of_ble_eq_true rfl⟩ ?_
  refine z_aload_n 0 dX6_init_140 rfl rfl ?_
  refine yc_getR fX6_29 dX6_init_141 (q := 0) rfl rfl ?_
  refine yc_V0 [] _ kX6_74 (cc_settle isPar7c) rfl isPar7c.1 dX6_init_144 rfl rfl (Nat.le_of_ble_eq_true rfl) (Nat.le_of_ble_eq_true rfl) ⟨Nat.le_of_ble_eq_true rfl, Nat.le_of_ble_eq_true rfl⟩ ?_
  exact z_vret dX6_init_147 rfl (Nat.le_of_ble_eq_true rfl) (Nat.le_of_ble_eq_true rfl) ⟨rfl, rfl⟩
set_option maxRecDepth 100000 in
/-- what both hold at the start -/
def m7i : zmem := fun a b => match a with
  | 57 => (match b with | 2 => 6 | 3 => 2 | 10 => 2 | 17 => -1 | _ => 0)
  | 65 => upd (upd (fun _ => 0) 0 0) 1 1 b
  | _ => 0
set_option maxRecDepth 100000 in
def m00 : zmem := fun a b => if a < 57 then mc1 a b else m7i a b
set_option maxRecDepth 100000 in
theorem hp_m00 : hpC mc1 ++ n7r 57 = hp m00 := by
  show hpC mc1 ++ n7r 57 = (zshC ++ zshR).mapIdx (fun k s => zcell m00 k s)
  have e1 : hpC mc1 = zshC.mapIdx (fun k s => zcell m00 k s) := by
    refine List.ext_getElem? (fun i => ?_)
    show (zshC.mapIdx (fun k s => zcell mc1 k s))[i]? = _
    rw [List.getElem?_mapIdx, List.getElem?_mapIdx]
    by_cases hi : i < 57
    · cases zshC[i]? with
      | none => rfl
      | some s =>
        simp only [Option.map_some]
        rw [zcell_eq s (m' := m00) (by funext b; simp [m00, hi])]
    · rw [List.getElem?_eq_none (show zshC.length ≤ i by have : zshC.length = 57 := rfl; omega)]
      rfl
  have e2 : n7r 57 = zshR.mapIdx (fun k s => zcell m00 (k + zshC.length) s) := rfl
  rw [List.mapIdx_append, e1, e2]
/-! THE LAW -/
set_option maxRecDepth 100000 in
def R_law : String := "LoftGravesLaw"
set_option maxRecDepth 100000 in
def lw_P (b : Addr) (xs : List Int32) (args : Array Value) (s : State) : Prop := args = #[.ref b] ∧ s.IntsAt b xs ∧ xs.length ≤ 2560 ∧ (Jvm.Cond.and given_1 narrow_1).before args s = true
set_option maxRecDepth 100000 in
def lw_Q (_ : Array Value) (s : State) (o : Outcome) (t : State) : Prop := o = .returned (some (.int 1)) ∧ Framed s o t [] 600000 7302250
set_option maxRecDepth 100000 in
def lw_Z (below : List Frame) (a : Array Value) (s : State) : State → Prop := fun t => ∃ o, t.status = .running ∧ Ended t below o ∧ lw_Q a s o t
set_option maxRecDepth 100000 in
/-- the law's own end, with 1 on the stack, nothing written that was there before, its room as the claim has it -/
theorem lw_ret {p : Program} {l : Launch} {e : Env} {s : State} {m : MethodId} {below : List Frame} {meth : Method} {c : Code} {b : Nat} (hx : p.tables.exec = Jvm.exec) (hb : c.code = code) (hr : meth.sig.returnType = ret) (hlocks : meth.locks = false) {pc : Nat} {H : Heap} {ls : Array Slot} (hdg : decode code pc = .ok (.ireturn, 1)) : W p l e room_1 s m #[Value.ref b] below meth c H [] 600000 7302250 (lw_Z below #[Value.ref b] s) (F0 m pc ls [.int 1]) := by
  intro T hT X
  obtain ⟨fs, hret, hrun, hended, hW, hframe⟩ := X.leave (v := some (.int 1)) (hlocks := hlocks) (fun h => by rw [hr] at h; cases h)
  have hmeth' : T.vm.method? m = some meth := X.method'
  refine ⟨T.setFrames fs, ?_, .returned (some (.int 1)), hrun, hended, rfl, ⟨_, rfl⟩, hW, hframe⟩
  jvm_step X.here [X.here.top, hx, hb, hdg, hmeth', hr, ret, narrow_b1]
  (try refine ⟨rfl, ?_⟩); (try refine ⟨rfl, ?_⟩)
  first | (intro acts; rw [hret _ acts rfl rfl rfl]) | rw [hret _ _ rfl rfl rfl]
  exact Steps.refl _
set_option maxRecDepth 100000 in
/-- what holds at the law's entry: the machine, the code, the tables' words (any of lw_tbl by 'hts w (by decide +kernel)'), the script of L ints xs at the cell b, what the Statement gives of the start (any of its parts by flat_of_before) -/
def lw_At (p : Program) (s : State) (m : MethodId) (meth : Method) (c : Code) (b L : Nat) (xs : Nat → Int32) : Prop :=
  p.tables.exec = Jvm.exec ∧ c.code = code ∧ meth.sig.returnType = ret ∧ c.maxLocals = 4 ∧ s.vm.findClass R_law = some m.cls ∧ (∀ w ∈ lw_tbl, w.before #[Value.ref b] s = true) ∧ va_X b L xs s s.heap ∧ b < s.heap.size ∧ meth.locks = false ∧ (Jvm.Cond.and given_1 narrow_1).before #[Value.ref b] s = true
set_option maxRecDepth 100000 in
theorem i32 {n : Nat} (h : n < 2147483648) : (Int32.ofNat n).toInt = n := Int32.toInt_ofNat_of_lt (by omega)
set_option maxRecDepth 100000 in
/-- a pair of methods, one of each object: the same answer, and the relation kept -/
def PB (M6 M7 : zM) (av : List Value) (Rel : zmem → Prop) : Prop := ∀ m, Rel m → ∃ (d6 d7 : Nat) (r : Int32) (m1 m2 : zmem), d6 ≤ 900 ∧ d7 ≤ 900 ∧ Ei M6 d6 (.ref 0 :: av) m r m1 ∧ Ei M7 d7 (.ref 57 :: av) m1 r m2 ∧ Rel m2
set_option maxRecDepth 100000 in
abbrev ML : zM := (yL_law, cL_law, 4, some .boolean)
set_option maxRecDepth 100000 in
def lF (b L : Nat) (xs : Nat → Int32) : zF := fun _ _ R s _ args below _ _ g Qf => R = room_1 ∧ args = #[.ref b] ∧ Qf = lw_Z below #[.ref b] s ∧ va_X b L xs s s.heap ∧ b < s.heap.size ∧ za g (zE0 + 50) = b ∧ zbase g = s.heap.size
set_option maxRecDepth 100000 in
def lB (b L : Nat) (xs : Nat → Int32) : zB := (lF b L xs, 1000, 600000, 7302250, ML)
set_option maxRecDepth 100000 in
def lvL (k : Nat) : zL := [(3, .int (Int32.ofNat (5 * k))), (2, .ref 57), (1, .ref 0), (0, .ref (zE0 + 50))]
section ZLW
variable {b L : Nat} {xs : Nat → Int32} {pc : Nat} {lv : zL} {st : List Value} {h : zH} {ce sl : Nat}
set_option maxRecDepth 100000 in
theorem z_sld {i : Int32} (hd : decode cL_law pc = .ok (.iaload, 1)) (hin : vp_in i L) (k : Z (lB b L xs) (pc + 1) lv (.int (xs i.toNatClampNeg) :: st) h ce sl) : Z (lB b L xs) pc lv (.int i :: .ref (zE0 + 50) :: st) h ce sl := by
  intro p e R s m args below meth c g Qf hF hO H locs ls hH hS hl0
  obtain ⟨hx, hcd, -⟩ := id hO
  obtain ⟨-, -, -, hX, hbl, hza, hzb⟩ := id hF
  have key := va_sld hx hcd hX hbl (A := zA g) (fun q => by have : zbase g ≤ b := q; omega) hS hin hd (k p e R s m args below meth c g Qf hF hO H locs ls hH hS hl0)
  rw [List.map_cons, List.map_cons, zv_int, zv_ref, hza]
  exact key
set_option maxRecDepth 100000 in
theorem z_sln (hd : decode cL_law pc = .ok (.arraylength, 1)) (k : Z (lB b L xs) (pc + 1) lv (.int (Int32.ofNat L) :: st) h ce sl) : Z (lB b L xs) pc lv (.ref (zE0 + 50) :: st) h ce sl := by
  intro p e R s m args below meth c g Qf hF hO H locs ls hH hS hl0
  obtain ⟨hx, hcd, -⟩ := id hO
  obtain ⟨-, -, -, hX, hbl, hza, hzb⟩ := id hF
  have key := va_slen hx hcd hX hbl (A := zA g) (fun q => by have : zbase g ≤ b := q; omega) hS hd (k p e R s m args below meth c g Qf hF hO H locs ls hH hS hl0)
  rw [List.map_cons, zv_ref, hza]
  exact key
set_option maxRecDepth 100000 in
theorem z_lwret (hd : decode cL_law pc = .ok (.ireturn, 1)) (hce : ce ≤ 600000) (hsl : sl ≤ 7302250) : Z (lB b L xs) pc lv [.int 1] h ce sl := by
  intro p e R s m args below meth c g Qf hF hO H locs ls hH hS hl0
  obtain ⟨hx, hcd, hml, hown, hts, hlocks, hret, -⟩ := id hO
  obtain ⟨hR, hargs, hQ, hX, hbl, hza, hzb⟩ := id hF
  subst hR; subst hargs; subst hQ
  refine va_forget (fun q hq => ?_) (W.widen hce hsl (lw_ret hx hcd (hret.trans rfl) hlocks hd))
  have := hS.2.2 q hq
  have h2 : zbase g ≤ q.base := this
  omega
set_option maxRecDepth 100000 in
theorem z_tab {B : zB} {dflt lo hi : Int} {offs : Array Int} {len : Nat} {x : Int32} {off : Int} (tgt : Nat) (hd : decode (zbc B) pc = .ok (.tableswitch dflt lo hi offs, len)) (h1 : ¬ x.toInt < lo) (h2 : ¬ hi < x.toInt) (ho : offs[(x.toInt - lo).toNat]? = some off) (ht : (pc : Int) + off = (tgt : Int)) (k : Z B tgt lv st h ce sl) : Z B pc lv (.int x :: st) h ce sl := by
  intro p e R s m args below meth c g Qf hF hO H locs ls hH hS hl0
  obtain ⟨hx, hcd, -⟩ := id hO
  exact lv_tableIn hx hcd hd h1 h2 ho ht (k p e R s m args below meth c g Qf hF hO H locs ls hH hS hl0)
end ZLW
set_option maxRecDepth 100000 in
theorem ofNat_bv (y : Int32) : Int32.ofNat y.toBitVec.toNat = y := by
  apply Int32.toBitVec_inj.mp
  show BitVec.ofNat 32 y.toBitVec.toNat = y.toBitVec
  simp
set_option maxRecDepth 100000 in
theorem and31 (x : Int32) : ∃ j, j < 32 ∧ x &&& 31 = Int32.ofNat j := by
  refine ⟨(x &&& 31).toBitVec.toNat, ?_, (ofNat_bv _).symm⟩
  have h : (x &&& 31).toBitVec.toNat = x.toBitVec.toNat &&& 31 := by simp
  rw [h]
  have := @Nat.and_le_right x.toBitVec.toNat 31
  omega
set_option maxRecDepth 100000 in
theorem lcin {k j L : Nat} {c : Int32} (hc : c = Int32.ofNat j) (hj : j < 5) (h : 5 * k + 5 ≤ L) (hL : L ≤ 2560) : vp_in (Int32.ofNat (5 * k) + c) L := by
  subst hc
  rw [← Int32.ofNat_add]
  intro q
  rcases q with q | q
  · rw [Int32.lt_iff_toInt_lt, i32 (by omega)] at q
    exact absurd q (by simp; omega)
  · rw [natc (by omega)] at q
    omega
set_option maxRecDepth 100000 in
theorem lcin0 {k L : Nat} (h : 5 * k + 5 ≤ L) (hL : L ≤ 2560) : vp_in (Int32.ofNat (5 * k)) L := by
  intro q
  rcases q with q | q
  · rw [Int32.lt_iff_toInt_lt, i32 (by omega)] at q
    exact absurd q (by simp; omega)
  · rw [natc (by omega)] at q
    omega
set_option maxRecDepth 100000 in
theorem lcle {k L : Nat} (hL : L ≤ 2560) (hk : 5 * k ≤ 2565) (h : ¬ Int32.ofNat L - 5 < Int32.ofNat (5 * k)) : 5 * k + 5 ≤ L := by
  rw [Int32.lt_iff_toInt_lt, Int32.toInt_sub, i32 (by omega), i32 (by omega)] at h
  have e : (5 : Int32).toInt = 5 := by decide
  rw [e] at h
  have hb : Int.bmod ((L : Int) - 5) (2 ^ 32) = (L : Int) - 5 := by
    rw [Int.bmod_def]
    split <;> omega
  rw [hb] at h
  omega
set_option maxRecDepth 100000 in
theorem lc_feed {b L : Nat} {xs : Nat → Int32} {Rel : zmem → Prop} (hP : (∀ (x0 : Int32) (x1 : Int64), PB MX6_feed MX7_feed [.int x0, .long x1] Rel)) {k : Nat} {m : zmem} (hk : 5 * k + 5 ≤ L) (hL : L ≤ 2560) (hm : Rel m) (K : ∀ m2, Rel m2 → Z (lB b L xs) 1032 (lvL k) [] (hp m2) 75 3984) : Z (lB b L xs) 176 (lvL k) [] (hp m) 75 3984 := by
  refine z_aload_n 2 dL_law_176 rfl rfl ?_
  refine z_aload_n 3 dL_law_177 rfl rfl ?_
  refine z_iload_n 0 dL_law_178 rfl rfl ?_
  refine z_iconst 1 dL_law_179 (by decide) ?_
  refine z_iadd dL_law_180 ?_
  refine z_sld dL_law_181 (lcin (j := 1) rfl (by decide) hk hL) ?_
  refine z_aload_n 3 dL_law_182 rfl rfl ?_
  refine z_iload_n 0 dL_law_183 rfl rfl ?_
  refine z_iconst 2 dL_law_184 (by decide) ?_
  refine z_iadd dL_law_185 ?_
  refine z_sld dL_law_186 (lcin (j := 2) rfl (by decide) hk hL) ?_
  refine z_i2l dL_law_187 ?_
  refine z_bipush 32 dL_law_188 (by decide) ?_
  refine z_lshl dL_law_190 ?_
  refine z_aload_n 3 dL_law_191 rfl rfl ?_
  refine z_iload_n 0 dL_law_192 rfl rfl ?_
  refine z_iconst 3 dL_law_193 (by decide) ?_
  refine z_iadd dL_law_194 ?_
  refine z_sld dL_law_195 (lcin (j := 3) rfl (by decide) hk hL) ?_
  refine z_i2l dL_law_196 ?_
  refine z_ldc2 _ dL_law_197 nL_13 ?_
  refine z_land dL_law_200 ?_
  refine z_lor dL_law_201 ?_
  obtain ⟨d6, d7, r, m1, m2, hd6, hd7, e6, e7, hr⟩ := hP _ _ m hm
  refine y_Vi (q := 0) (ci := 6) [_, _] _ kL_15 e6 rfl rfl dL_law_202 rfl rfl (Nat.le_of_ble_eq_true rfl) (show d6 + 1 ≤ 1000 by omega) ⟨Nat.le_of_ble_eq_true rfl, Nat.le_of_ble_eq_true rfl⟩ ?_
  refine z_aload_n 1 dL_law_205 rfl rfl ?_
  refine z_aload_n 3 dL_law_206 rfl rfl ?_
  refine z_iload_n 0 dL_law_207 rfl rfl ?_
  refine z_iconst 1 dL_law_208 (by decide) ?_
  refine z_iadd dL_law_209 ?_
  refine z_sld dL_law_210 (lcin (j := 1) rfl (by decide) hk hL) ?_
  refine z_aload_n 3 dL_law_211 rfl rfl ?_
  refine z_iload_n 0 dL_law_212 rfl rfl ?_
  refine z_iconst 2 dL_law_213 (by decide) ?_
  refine z_iadd dL_law_214 ?_
  refine z_sld dL_law_215 (lcin (j := 2) rfl (by decide) hk hL) ?_
  refine z_i2l dL_law_216 ?_
  refine z_bipush 32 dL_law_217 (by decide) ?_
  refine z_lshl dL_law_219 ?_
  refine z_aload_n 3 dL_law_220 rfl rfl ?_
  refine z_iload_n 0 dL_law_221 rfl rfl ?_
  refine z_iconst 3 dL_law_222 (by decide) ?_
  refine z_iadd dL_law_223 ?_
  refine z_sld dL_law_224 (lcin (j := 3) rfl (by decide) hk hL) ?_
  refine z_i2l dL_law_225 ?_
  refine z_ldc2 _ dL_law_226 nL_13 ?_
  refine z_land dL_law_229 ?_
  refine z_lor dL_law_230 ?_
  refine y_Vi (q := 57) (ci := 7) [_, _] _ kL_19 e7 rfl rfl dL_law_231 rfl rfl (Nat.le_of_ble_eq_true rfl) (show d7 + 1 ≤ 1000 by omega) ⟨Nat.le_of_ble_eq_true rfl, Nat.le_of_ble_eq_true rfl⟩ ?_
  refine z_icmp_eq 1032 dL_law_234 (by decide) (fun _ => ?_) (fun c => absurd rfl c)
  exact K m2 hr
set_option maxRecDepth 100000 in
theorem lc_parish {b L : Nat} {xs : Nat → Int32} {Rel : zmem → Prop} (hP : (PB MX6_parish MX7_parish [] Rel)) {k : Nat} {m : zmem} (hk : 5 * k + 5 ≤ L) (hL : L ≤ 2560) (hm : Rel m) (K : ∀ m2, Rel m2 → Z (lB b L xs) 1032 (lvL k) [] (hp m2) 75 3984) : Z (lB b L xs) 239 (lvL k) [] (hp m) 75 3984 := by
  refine z_aload_n 2 dL_law_239 rfl rfl ?_
  obtain ⟨d6, d7, r, m1, m2, hd6, hd7, e6, e7, hr⟩ := hP m hm
  refine y_Vi (q := 0) (ci := 6) [] _ kL_20 e6 rfl rfl dL_law_240 rfl rfl (Nat.le_of_ble_eq_true rfl) (show d6 + 1 ≤ 1000 by omega) ⟨Nat.le_of_ble_eq_true rfl, Nat.le_of_ble_eq_true rfl⟩ ?_
  refine z_aload_n 1 dL_law_243 rfl rfl ?_
  refine y_Vi (q := 57) (ci := 7) [] _ kL_24 e7 rfl rfl dL_law_244 rfl rfl (Nat.le_of_ble_eq_true rfl) (show d7 + 1 ≤ 1000 by omega) ⟨Nat.le_of_ble_eq_true rfl, Nat.le_of_ble_eq_true rfl⟩ ?_
  refine z_icmp_eq 1032 dL_law_247 (by decide) (fun _ => ?_) (fun c => absurd rfl c)
  exact K m2 hr
set_option maxRecDepth 100000 in
theorem lc_custom {b L : Nat} {xs : Nat → Int32} {Rel : zmem → Prop} (hP : (PB MX6_custom MX7_custom [] Rel)) {k : Nat} {m : zmem} (hk : 5 * k + 5 ≤ L) (hL : L ≤ 2560) (hm : Rel m) (K : ∀ m2, Rel m2 → Z (lB b L xs) 1032 (lvL k) [] (hp m2) 75 3984) : Z (lB b L xs) 252 (lvL k) [] (hp m) 75 3984 := by
  refine z_aload_n 2 dL_law_252 rfl rfl ?_
  obtain ⟨d6, d7, r, m1, m2, hd6, hd7, e6, e7, hr⟩ := hP m hm
  refine y_Vi (q := 0) (ci := 6) [] _ kL_25 e6 rfl rfl dL_law_253 rfl rfl (Nat.le_of_ble_eq_true rfl) (show d6 + 1 ≤ 1000 by omega) ⟨Nat.le_of_ble_eq_true rfl, Nat.le_of_ble_eq_true rfl⟩ ?_
  refine z_aload_n 1 dL_law_256 rfl rfl ?_
  refine y_Vi (q := 57) (ci := 7) [] _ kL_28 e7 rfl rfl dL_law_257 rfl rfl (Nat.le_of_ble_eq_true rfl) (show d7 + 1 ≤ 1000 by omega) ⟨Nat.le_of_ble_eq_true rfl, Nat.le_of_ble_eq_true rfl⟩ ?_
  refine z_icmp_eq 1032 dL_law_260 (by decide) (fun _ => ?_) (fun c => absurd rfl c)
  exact K m2 hr
set_option maxRecDepth 100000 in
theorem lc_fault {b L : Nat} {xs : Nat → Int32} {Rel : zmem → Prop} (hP : (PB MX6_fault MX7_fault [] Rel)) {k : Nat} {m : zmem} (hk : 5 * k + 5 ≤ L) (hL : L ≤ 2560) (hm : Rel m) (K : ∀ m2, Rel m2 → Z (lB b L xs) 1032 (lvL k) [] (hp m2) 75 3984) : Z (lB b L xs) 265 (lvL k) [] (hp m) 75 3984 := by
  refine z_aload_n 2 dL_law_265 rfl rfl ?_
  obtain ⟨d6, d7, r, m1, m2, hd6, hd7, e6, e7, hr⟩ := hP m hm
  refine y_Vi (q := 0) (ci := 6) [] _ kL_29 e6 rfl rfl dL_law_266 rfl rfl (Nat.le_of_ble_eq_true rfl) (show d6 + 1 ≤ 1000 by omega) ⟨Nat.le_of_ble_eq_true rfl, Nat.le_of_ble_eq_true rfl⟩ ?_
  refine z_aload_n 1 dL_law_269 rfl rfl ?_
  refine y_Vi (q := 57) (ci := 7) [] _ kL_32 e7 rfl rfl dL_law_270 rfl rfl (Nat.le_of_ble_eq_true rfl) (show d7 + 1 ≤ 1000 by omega) ⟨Nat.le_of_ble_eq_true rfl, Nat.le_of_ble_eq_true rfl⟩ ?_
  refine z_icmp_eq 1032 dL_law_273 (by decide) (fun _ => ?_) (fun c => absurd rfl c)
  exact K m2 hr
set_option maxRecDepth 100000 in
theorem lc_told {b L : Nat} {xs : Nat → Int32} {Rel : zmem → Prop} (hP : (∀ (x0 : Int32), PB MX6_told MX7_told [.int x0] Rel)) {k : Nat} {m : zmem} (hk : 5 * k + 5 ≤ L) (hL : L ≤ 2560) (hm : Rel m) (K : ∀ m2, Rel m2 → Z (lB b L xs) 1032 (lvL k) [] (hp m2) 75 3984) : Z (lB b L xs) 278 (lvL k) [] (hp m) 75 3984 := by
  refine z_aload_n 2 dL_law_278 rfl rfl ?_
  refine z_aload_n 3 dL_law_279 rfl rfl ?_
  refine z_iload_n 0 dL_law_280 rfl rfl ?_
  refine z_iconst 1 dL_law_281 (by decide) ?_
  refine z_iadd dL_law_282 ?_
  refine z_sld dL_law_283 (lcin (j := 1) rfl (by decide) hk hL) ?_
  obtain ⟨d6, d7, r, m1, m2, hd6, hd7, e6, e7, hr⟩ := hP _ m hm
  refine y_Vi (q := 0) (ci := 6) [_] _ kL_33 e6 rfl rfl dL_law_284 rfl rfl (Nat.le_of_ble_eq_true rfl) (show d6 + 1 ≤ 1000 by omega) ⟨Nat.le_of_ble_eq_true rfl, Nat.le_of_ble_eq_true rfl⟩ ?_
  refine z_aload_n 1 dL_law_287 rfl rfl ?_
  refine z_aload_n 3 dL_law_288 rfl rfl ?_
  refine z_iload_n 0 dL_law_289 rfl rfl ?_
  refine z_iconst 1 dL_law_290 (by decide) ?_
  refine z_iadd dL_law_291 ?_
  refine z_sld dL_law_292 (lcin (j := 1) rfl (by decide) hk hL) ?_
  refine y_Vi (q := 57) (ci := 7) [_] _ kL_37 e7 rfl rfl dL_law_293 rfl rfl (Nat.le_of_ble_eq_true rfl) (show d7 + 1 ≤ 1000 by omega) ⟨Nat.le_of_ble_eq_true rfl, Nat.le_of_ble_eq_true rfl⟩ ?_
  refine z_icmp_eq 1032 dL_law_296 (by decide) (fun _ => ?_) (fun c => absurd rfl c)
  exact K m2 hr
set_option maxRecDepth 100000 in
theorem lc_yard {b L : Nat} {xs : Nat → Int32} {Rel : zmem → Prop} (hP : (∀ (x0 x1 : Int32), PB MX6_yard MX7_yard [.int x0, .int x1] Rel)) {k : Nat} {m : zmem} (hk : 5 * k + 5 ≤ L) (hL : L ≤ 2560) (hm : Rel m) (K : ∀ m2, Rel m2 → Z (lB b L xs) 1032 (lvL k) [] (hp m2) 75 3984) : Z (lB b L xs) 301 (lvL k) [] (hp m) 75 3984 := by
  refine z_aload_n 2 dL_law_301 rfl rfl ?_
  refine z_aload_n 3 dL_law_302 rfl rfl ?_
  refine z_iload_n 0 dL_law_303 rfl rfl ?_
  refine z_iconst 1 dL_law_304 (by decide) ?_
  refine z_iadd dL_law_305 ?_
  refine z_sld dL_law_306 (lcin (j := 1) rfl (by decide) hk hL) ?_
  refine z_aload_n 3 dL_law_307 rfl rfl ?_
  refine z_iload_n 0 dL_law_308 rfl rfl ?_
  refine z_iconst 2 dL_law_309 (by decide) ?_
  refine z_iadd dL_law_310 ?_
  refine z_sld dL_law_311 (lcin (j := 2) rfl (by decide) hk hL) ?_
  obtain ⟨d6, d7, r, m1, m2, hd6, hd7, e6, e7, hr⟩ := hP _ _ m hm
  refine y_Vi (q := 0) (ci := 6) [_, _] _ kL_38 e6 rfl rfl dL_law_312 rfl rfl (Nat.le_of_ble_eq_true rfl) (show d6 + 1 ≤ 1000 by omega) ⟨Nat.le_of_ble_eq_true rfl, Nat.le_of_ble_eq_true rfl⟩ ?_
  refine z_aload_n 1 dL_law_315 rfl rfl ?_
  refine z_aload_n 3 dL_law_316 rfl rfl ?_
  refine z_iload_n 0 dL_law_317 rfl rfl ?_
  refine z_iconst 1 dL_law_318 (by decide) ?_
  refine z_iadd dL_law_319 ?_
  refine z_sld dL_law_320 (lcin (j := 1) rfl (by decide) hk hL) ?_
  refine z_aload_n 3 dL_law_321 rfl rfl ?_
  refine z_iload_n 0 dL_law_322 rfl rfl ?_
  refine z_iconst 2 dL_law_323 (by decide) ?_
  refine z_iadd dL_law_324 ?_
  refine z_sld dL_law_325 (lcin (j := 2) rfl (by decide) hk hL) ?_
  refine y_Vi (q := 57) (ci := 7) [_, _] _ kL_42 e7 rfl rfl dL_law_326 rfl rfl (Nat.le_of_ble_eq_true rfl) (show d7 + 1 ≤ 1000 by omega) ⟨Nat.le_of_ble_eq_true rfl, Nat.le_of_ble_eq_true rfl⟩ ?_
  refine z_icmp_eq 1032 dL_law_329 (by decide) (fun _ => ?_) (fun c => absurd rfl c)
  exact K m2 hr
set_option maxRecDepth 100000 in
theorem lc_dead {b L : Nat} {xs : Nat → Int32} {Rel : zmem → Prop} (hP : (∀ (x0 x1 : Int32), PB MX6_dead MX7_dead [.int x0, .int x1] Rel)) {k : Nat} {m : zmem} (hk : 5 * k + 5 ≤ L) (hL : L ≤ 2560) (hm : Rel m) (K : ∀ m2, Rel m2 → Z (lB b L xs) 1032 (lvL k) [] (hp m2) 75 3984) : Z (lB b L xs) 334 (lvL k) [] (hp m) 75 3984 := by
  refine z_aload_n 2 dL_law_334 rfl rfl ?_
  refine z_aload_n 3 dL_law_335 rfl rfl ?_
  refine z_iload_n 0 dL_law_336 rfl rfl ?_
  refine z_iconst 1 dL_law_337 (by decide) ?_
  refine z_iadd dL_law_338 ?_
  refine z_sld dL_law_339 (lcin (j := 1) rfl (by decide) hk hL) ?_
  refine z_aload_n 3 dL_law_340 rfl rfl ?_
  refine z_iload_n 0 dL_law_341 rfl rfl ?_
  refine z_iconst 2 dL_law_342 (by decide) ?_
  refine z_iadd dL_law_343 ?_
  refine z_sld dL_law_344 (lcin (j := 2) rfl (by decide) hk hL) ?_
  obtain ⟨d6, d7, r, m1, m2, hd6, hd7, e6, e7, hr⟩ := hP _ _ m hm
  refine y_Vi (q := 0) (ci := 6) [_, _] _ kL_43 e6 rfl rfl dL_law_345 rfl rfl (Nat.le_of_ble_eq_true rfl) (show d6 + 1 ≤ 1000 by omega) ⟨Nat.le_of_ble_eq_true rfl, Nat.le_of_ble_eq_true rfl⟩ ?_
  refine z_aload_n 1 dL_law_348 rfl rfl ?_
  refine z_aload_n 3 dL_law_349 rfl rfl ?_
  refine z_iload_n 0 dL_law_350 rfl rfl ?_
  refine z_iconst 1 dL_law_351 (by decide) ?_
  refine z_iadd dL_law_352 ?_
  refine z_sld dL_law_353 (lcin (j := 1) rfl (by decide) hk hL) ?_
  refine z_aload_n 3 dL_law_354 rfl rfl ?_
  refine z_iload_n 0 dL_law_355 rfl rfl ?_
  refine z_iconst 2 dL_law_356 (by decide) ?_
  refine z_iadd dL_law_357 ?_
  refine z_sld dL_law_358 (lcin (j := 2) rfl (by decide) hk hL) ?_
  refine y_Vi (q := 57) (ci := 7) [_, _] _ kL_46 e7 rfl rfl dL_law_359 rfl rfl (Nat.le_of_ble_eq_true rfl) (show d7 + 1 ≤ 1000 by omega) ⟨Nat.le_of_ble_eq_true rfl, Nat.le_of_ble_eq_true rfl⟩ ?_
  refine z_icmp_eq 1032 dL_law_362 (by decide) (fun _ => ?_) (fun c => absurd rfl c)
  exact K m2 hr
set_option maxRecDepth 100000 in
theorem lc_order {b L : Nat} {xs : Nat → Int32} {Rel : zmem → Prop} (hP : (∀ (x0 : Int32), PB MX6_order MX7_order [.int x0] Rel)) {k : Nat} {m : zmem} (hk : 5 * k + 5 ≤ L) (hL : L ≤ 2560) (hm : Rel m) (K : ∀ m2, Rel m2 → Z (lB b L xs) 1032 (lvL k) [] (hp m2) 75 3984) : Z (lB b L xs) 367 (lvL k) [] (hp m) 75 3984 := by
  refine z_aload_n 2 dL_law_367 rfl rfl ?_
  refine z_aload_n 3 dL_law_368 rfl rfl ?_
  refine z_iload_n 0 dL_law_369 rfl rfl ?_
  refine z_iconst 1 dL_law_370 (by decide) ?_
  refine z_iadd dL_law_371 ?_
  refine z_sld dL_law_372 (lcin (j := 1) rfl (by decide) hk hL) ?_
  obtain ⟨d6, d7, r, m1, m2, hd6, hd7, e6, e7, hr⟩ := hP _ m hm
  refine y_Vi (q := 0) (ci := 6) [_] _ kL_47 e6 rfl rfl dL_law_373 rfl rfl (Nat.le_of_ble_eq_true rfl) (show d6 + 1 ≤ 1000 by omega) ⟨Nat.le_of_ble_eq_true rfl, Nat.le_of_ble_eq_true rfl⟩ ?_
  refine z_aload_n 1 dL_law_376 rfl rfl ?_
  refine z_aload_n 3 dL_law_377 rfl rfl ?_
  refine z_iload_n 0 dL_law_378 rfl rfl ?_
  refine z_iconst 1 dL_law_379 (by decide) ?_
  refine z_iadd dL_law_380 ?_
  refine z_sld dL_law_381 (lcin (j := 1) rfl (by decide) hk hL) ?_
  refine y_Vi (q := 57) (ci := 7) [_] _ kL_50 e7 rfl rfl dL_law_382 rfl rfl (Nat.le_of_ble_eq_true rfl) (show d7 + 1 ≤ 1000 by omega) ⟨Nat.le_of_ble_eq_true rfl, Nat.le_of_ble_eq_true rfl⟩ ?_
  refine z_icmp_eq 1032 dL_law_385 (by decide) (fun _ => ?_) (fun c => absurd rfl c)
  exact K m2 hr
set_option maxRecDepth 100000 in
theorem lc_letter {b L : Nat} {xs : Nat → Int32} {Rel : zmem → Prop} (hP : (∀ (x0 x1 : Int32), PB MX6_letter MX7_letter [.int x0, .int x1] Rel)) {k : Nat} {m : zmem} (hk : 5 * k + 5 ≤ L) (hL : L ≤ 2560) (hm : Rel m) (K : ∀ m2, Rel m2 → Z (lB b L xs) 1032 (lvL k) [] (hp m2) 75 3984) : Z (lB b L xs) 390 (lvL k) [] (hp m) 75 3984 := by
  refine z_aload_n 2 dL_law_390 rfl rfl ?_
  refine z_aload_n 3 dL_law_391 rfl rfl ?_
  refine z_iload_n 0 dL_law_392 rfl rfl ?_
  refine z_iconst 1 dL_law_393 (by decide) ?_
  refine z_iadd dL_law_394 ?_
  refine z_sld dL_law_395 (lcin (j := 1) rfl (by decide) hk hL) ?_
  refine z_aload_n 3 dL_law_396 rfl rfl ?_
  refine z_iload_n 0 dL_law_397 rfl rfl ?_
  refine z_iconst 2 dL_law_398 (by decide) ?_
  refine z_iadd dL_law_399 ?_
  refine z_sld dL_law_400 (lcin (j := 2) rfl (by decide) hk hL) ?_
  obtain ⟨d6, d7, r, m1, m2, hd6, hd7, e6, e7, hr⟩ := hP _ _ m hm
  refine y_Vi (q := 0) (ci := 6) [_, _] _ kL_51 e6 rfl rfl dL_law_401 rfl rfl (Nat.le_of_ble_eq_true rfl) (show d6 + 1 ≤ 1000 by omega) ⟨Nat.le_of_ble_eq_true rfl, Nat.le_of_ble_eq_true rfl⟩ ?_
  refine z_aload_n 1 dL_law_404 rfl rfl ?_
  refine z_aload_n 3 dL_law_405 rfl rfl ?_
  refine z_iload_n 0 dL_law_406 rfl rfl ?_
  refine z_iconst 1 dL_law_407 (by decide) ?_
  refine z_iadd dL_law_408 ?_
  refine z_sld dL_law_409 (lcin (j := 1) rfl (by decide) hk hL) ?_
  refine z_aload_n 3 dL_law_410 rfl rfl ?_
  refine z_iload_n 0 dL_law_411 rfl rfl ?_
  refine z_iconst 2 dL_law_412 (by decide) ?_
  refine z_iadd dL_law_413 ?_
  refine z_sld dL_law_414 (lcin (j := 2) rfl (by decide) hk hL) ?_
  refine y_Vi (q := 57) (ci := 7) [_, _] _ kL_54 e7 rfl rfl dL_law_415 rfl rfl (Nat.le_of_ble_eq_true rfl) (show d7 + 1 ≤ 1000 by omega) ⟨Nat.le_of_ble_eq_true rfl, Nat.le_of_ble_eq_true rfl⟩ ?_
  refine z_icmp_eq 1032 dL_law_418 (by decide) (fun _ => ?_) (fun c => absurd rfl c)
  exact K m2 hr
set_option maxRecDepth 100000 in
theorem lc_gift {b L : Nat} {xs : Nat → Int32} {Rel : zmem → Prop} (hP : (∀ (x0 x1 : Int32), PB MX6_gift MX7_gift [.int x0, .int x1] Rel)) {k : Nat} {m : zmem} (hk : 5 * k + 5 ≤ L) (hL : L ≤ 2560) (hm : Rel m) (K : ∀ m2, Rel m2 → Z (lB b L xs) 1032 (lvL k) [] (hp m2) 75 3984) : Z (lB b L xs) 423 (lvL k) [] (hp m) 75 3984 := by
  refine z_aload_n 2 dL_law_423 rfl rfl ?_
  refine z_aload_n 3 dL_law_424 rfl rfl ?_
  refine z_iload_n 0 dL_law_425 rfl rfl ?_
  refine z_iconst 1 dL_law_426 (by decide) ?_
  refine z_iadd dL_law_427 ?_
  refine z_sld dL_law_428 (lcin (j := 1) rfl (by decide) hk hL) ?_
  refine z_aload_n 3 dL_law_429 rfl rfl ?_
  refine z_iload_n 0 dL_law_430 rfl rfl ?_
  refine z_iconst 2 dL_law_431 (by decide) ?_
  refine z_iadd dL_law_432 ?_
  refine z_sld dL_law_433 (lcin (j := 2) rfl (by decide) hk hL) ?_
  obtain ⟨d6, d7, r, m1, m2, hd6, hd7, e6, e7, hr⟩ := hP _ _ m hm
  refine y_Vi (q := 0) (ci := 6) [_, _] _ kL_55 e6 rfl rfl dL_law_434 rfl rfl (Nat.le_of_ble_eq_true rfl) (show d6 + 1 ≤ 1000 by omega) ⟨Nat.le_of_ble_eq_true rfl, Nat.le_of_ble_eq_true rfl⟩ ?_
  refine z_aload_n 1 dL_law_437 rfl rfl ?_
  refine z_aload_n 3 dL_law_438 rfl rfl ?_
  refine z_iload_n 0 dL_law_439 rfl rfl ?_
  refine z_iconst 1 dL_law_440 (by decide) ?_
  refine z_iadd dL_law_441 ?_
  refine z_sld dL_law_442 (lcin (j := 1) rfl (by decide) hk hL) ?_
  refine z_aload_n 3 dL_law_443 rfl rfl ?_
  refine z_iload_n 0 dL_law_444 rfl rfl ?_
  refine z_iconst 2 dL_law_445 (by decide) ?_
  refine z_iadd dL_law_446 ?_
  refine z_sld dL_law_447 (lcin (j := 2) rfl (by decide) hk hL) ?_
  refine y_Vi (q := 57) (ci := 7) [_, _] _ kL_58 e7 rfl rfl dL_law_448 rfl rfl (Nat.le_of_ble_eq_true rfl) (show d7 + 1 ≤ 1000 by omega) ⟨Nat.le_of_ble_eq_true rfl, Nat.le_of_ble_eq_true rfl⟩ ?_
  refine z_icmp_eq 1032 dL_law_451 (by decide) (fun _ => ?_) (fun c => absurd rfl c)
  exact K m2 hr
set_option maxRecDepth 100000 in
theorem lc_knock {b L : Nat} {xs : Nat → Int32} {Rel : zmem → Prop} (hP : (∀ (x0 : Int32), PB MX6_knock MX7_knock [.int x0] Rel)) {k : Nat} {m : zmem} (hk : 5 * k + 5 ≤ L) (hL : L ≤ 2560) (hm : Rel m) (K : ∀ m2, Rel m2 → Z (lB b L xs) 1032 (lvL k) [] (hp m2) 75 3984) : Z (lB b L xs) 456 (lvL k) [] (hp m) 75 3984 := by
  refine z_aload_n 2 dL_law_456 rfl rfl ?_
  refine z_aload_n 3 dL_law_457 rfl rfl ?_
  refine z_iload_n 0 dL_law_458 rfl rfl ?_
  refine z_iconst 1 dL_law_459 (by decide) ?_
  refine z_iadd dL_law_460 ?_
  refine z_sld dL_law_461 (lcin (j := 1) rfl (by decide) hk hL) ?_
  obtain ⟨d6, d7, r, m1, m2, hd6, hd7, e6, e7, hr⟩ := hP _ m hm
  refine y_Vi (q := 0) (ci := 6) [_] _ kL_59 e6 rfl rfl dL_law_462 rfl rfl (Nat.le_of_ble_eq_true rfl) (show d6 + 1 ≤ 1000 by omega) ⟨Nat.le_of_ble_eq_true rfl, Nat.le_of_ble_eq_true rfl⟩ ?_
  refine z_aload_n 1 dL_law_465 rfl rfl ?_
  refine z_aload_n 3 dL_law_466 rfl rfl ?_
  refine z_iload_n 0 dL_law_467 rfl rfl ?_
  refine z_iconst 1 dL_law_468 (by decide) ?_
  refine z_iadd dL_law_469 ?_
  refine z_sld dL_law_470 (lcin (j := 1) rfl (by decide) hk hL) ?_
  refine y_Vi (q := 57) (ci := 7) [_] _ kL_62 e7 rfl rfl dL_law_471 rfl rfl (Nat.le_of_ble_eq_true rfl) (show d7 + 1 ≤ 1000 by omega) ⟨Nat.le_of_ble_eq_true rfl, Nat.le_of_ble_eq_true rfl⟩ ?_
  refine z_icmp_eq 1032 dL_law_474 (by decide) (fun _ => ?_) (fun c => absurd rfl c)
  exact K m2 hr
set_option maxRecDepth 100000 in
theorem lc_day {b L : Nat} {xs : Nat → Int32} {Rel : zmem → Prop} (hP : (∀ (x0 : Int32), PB MX6_day MX7_day [.int x0] Rel)) {k : Nat} {m : zmem} (hk : 5 * k + 5 ≤ L) (hL : L ≤ 2560) (hm : Rel m) (K : ∀ m2, Rel m2 → Z (lB b L xs) 1032 (lvL k) [] (hp m2) 75 3984) : Z (lB b L xs) 479 (lvL k) [] (hp m) 75 3984 := by
  refine z_aload_n 2 dL_law_479 rfl rfl ?_
  refine z_aload_n 3 dL_law_480 rfl rfl ?_
  refine z_iload_n 0 dL_law_481 rfl rfl ?_
  refine z_iconst 1 dL_law_482 (by decide) ?_
  refine z_iadd dL_law_483 ?_
  refine z_sld dL_law_484 (lcin (j := 1) rfl (by decide) hk hL) ?_
  obtain ⟨d6, d7, r, m1, m2, hd6, hd7, e6, e7, hr⟩ := hP _ m hm
  refine y_Vi (q := 0) (ci := 6) [_] _ kL_63 e6 rfl rfl dL_law_485 rfl rfl (Nat.le_of_ble_eq_true rfl) (show d6 + 1 ≤ 1000 by omega) ⟨Nat.le_of_ble_eq_true rfl, Nat.le_of_ble_eq_true rfl⟩ ?_
  refine z_aload_n 1 dL_law_488 rfl rfl ?_
  refine z_aload_n 3 dL_law_489 rfl rfl ?_
  refine z_iload_n 0 dL_law_490 rfl rfl ?_
  refine z_iconst 1 dL_law_491 (by decide) ?_
  refine z_iadd dL_law_492 ?_
  refine z_sld dL_law_493 (lcin (j := 1) rfl (by decide) hk hL) ?_
  refine y_Vi (q := 57) (ci := 7) [_] _ kL_66 e7 rfl rfl dL_law_494 rfl rfl (Nat.le_of_ble_eq_true rfl) (show d7 + 1 ≤ 1000 by omega) ⟨Nat.le_of_ble_eq_true rfl, Nat.le_of_ble_eq_true rfl⟩ ?_
  refine z_icmp_eq 1032 dL_law_497 (by decide) (fun _ => ?_) (fun c => absurd rfl c)
  exact K m2 hr
set_option maxRecDepth 100000 in
theorem lc_rats {b L : Nat} {xs : Nat → Int32} {Rel : zmem → Prop} (hP : (∀ (x0 x1 : Int32), PB MX6_rats MX7_rats [.int x0, .int x1] Rel)) {k : Nat} {m : zmem} (hk : 5 * k + 5 ≤ L) (hL : L ≤ 2560) (hm : Rel m) (K : ∀ m2, Rel m2 → Z (lB b L xs) 1032 (lvL k) [] (hp m2) 75 3984) : Z (lB b L xs) 502 (lvL k) [] (hp m) 75 3984 := by
  refine z_aload_n 2 dL_law_502 rfl rfl ?_
  refine z_aload_n 3 dL_law_503 rfl rfl ?_
  refine z_iload_n 0 dL_law_504 rfl rfl ?_
  refine z_iconst 1 dL_law_505 (by decide) ?_
  refine z_iadd dL_law_506 ?_
  refine z_sld dL_law_507 (lcin (j := 1) rfl (by decide) hk hL) ?_
  refine z_aload_n 3 dL_law_508 rfl rfl ?_
  refine z_iload_n 0 dL_law_509 rfl rfl ?_
  refine z_iconst 2 dL_law_510 (by decide) ?_
  refine z_iadd dL_law_511 ?_
  refine z_sld dL_law_512 (lcin (j := 2) rfl (by decide) hk hL) ?_
  obtain ⟨d6, d7, r, m1, m2, hd6, hd7, e6, e7, hr⟩ := hP _ _ m hm
  refine y_Vi (q := 0) (ci := 6) [_, _] _ kL_67 e6 rfl rfl dL_law_513 rfl rfl (Nat.le_of_ble_eq_true rfl) (show d6 + 1 ≤ 1000 by omega) ⟨Nat.le_of_ble_eq_true rfl, Nat.le_of_ble_eq_true rfl⟩ ?_
  refine z_aload_n 1 dL_law_516 rfl rfl ?_
  refine z_aload_n 3 dL_law_517 rfl rfl ?_
  refine z_iload_n 0 dL_law_518 rfl rfl ?_
  refine z_iconst 1 dL_law_519 (by decide) ?_
  refine z_iadd dL_law_520 ?_
  refine z_sld dL_law_521 (lcin (j := 1) rfl (by decide) hk hL) ?_
  refine z_aload_n 3 dL_law_522 rfl rfl ?_
  refine z_iload_n 0 dL_law_523 rfl rfl ?_
  refine z_iconst 2 dL_law_524 (by decide) ?_
  refine z_iadd dL_law_525 ?_
  refine z_sld dL_law_526 (lcin (j := 2) rfl (by decide) hk hL) ?_
  refine y_Vi (q := 57) (ci := 7) [_, _] _ kL_70 e7 rfl rfl dL_law_527 rfl rfl (Nat.le_of_ble_eq_true rfl) (show d7 + 1 ≤ 1000 by omega) ⟨Nat.le_of_ble_eq_true rfl, Nat.le_of_ble_eq_true rfl⟩ ?_
  refine z_icmp_eq 1032 dL_law_530 (by decide) (fun _ => ?_) (fun c => absurd rfl c)
  exact K m2 hr
set_option maxRecDepth 100000 in
theorem lc_lay {b L : Nat} {xs : Nat → Int32} {Rel : zmem → Prop} (hP : (∀ (x0 x1 : Int32), PB MX6_lay MX7_lay [.int x0, .int x1] Rel)) {k : Nat} {m : zmem} (hk : 5 * k + 5 ≤ L) (hL : L ≤ 2560) (hm : Rel m) (K : ∀ m2, Rel m2 → Z (lB b L xs) 1032 (lvL k) [] (hp m2) 75 3984) : Z (lB b L xs) 535 (lvL k) [] (hp m) 75 3984 := by
  refine z_aload_n 2 dL_law_535 rfl rfl ?_
  refine z_aload_n 3 dL_law_536 rfl rfl ?_
  refine z_iload_n 0 dL_law_537 rfl rfl ?_
  refine z_iconst 1 dL_law_538 (by decide) ?_
  refine z_iadd dL_law_539 ?_
  refine z_sld dL_law_540 (lcin (j := 1) rfl (by decide) hk hL) ?_
  refine z_aload_n 3 dL_law_541 rfl rfl ?_
  refine z_iload_n 0 dL_law_542 rfl rfl ?_
  refine z_iconst 2 dL_law_543 (by decide) ?_
  refine z_iadd dL_law_544 ?_
  refine z_sld dL_law_545 (lcin (j := 2) rfl (by decide) hk hL) ?_
  obtain ⟨d6, d7, r, m1, m2, hd6, hd7, e6, e7, hr⟩ := hP _ _ m hm
  refine y_Vi (q := 0) (ci := 6) [_, _] _ kL_71 e6 rfl rfl dL_law_546 rfl rfl (Nat.le_of_ble_eq_true rfl) (show d6 + 1 ≤ 1000 by omega) ⟨Nat.le_of_ble_eq_true rfl, Nat.le_of_ble_eq_true rfl⟩ ?_
  refine z_aload_n 1 dL_law_549 rfl rfl ?_
  refine z_aload_n 3 dL_law_550 rfl rfl ?_
  refine z_iload_n 0 dL_law_551 rfl rfl ?_
  refine z_iconst 1 dL_law_552 (by decide) ?_
  refine z_iadd dL_law_553 ?_
  refine z_sld dL_law_554 (lcin (j := 1) rfl (by decide) hk hL) ?_
  refine z_aload_n 3 dL_law_555 rfl rfl ?_
  refine z_iload_n 0 dL_law_556 rfl rfl ?_
  refine z_iconst 2 dL_law_557 (by decide) ?_
  refine z_iadd dL_law_558 ?_
  refine z_sld dL_law_559 (lcin (j := 2) rfl (by decide) hk hL) ?_
  refine y_Vi (q := 57) (ci := 7) [_, _] _ kL_74 e7 rfl rfl dL_law_560 rfl rfl (Nat.le_of_ble_eq_true rfl) (show d7 + 1 ≤ 1000 by omega) ⟨Nat.le_of_ble_eq_true rfl, Nat.le_of_ble_eq_true rfl⟩ ?_
  refine z_icmp_eq 1032 dL_law_563 (by decide) (fun _ => ?_) (fun c => absurd rfl c)
  exact K m2 hr
set_option maxRecDepth 100000 in
theorem lc_spring {b L : Nat} {xs : Nat → Int32} {Rel : zmem → Prop} (hP : (∀ (x0 x1 : Int32), PB MX6_spring MX7_spring [.int x0, .int x1] Rel)) {k : Nat} {m : zmem} (hk : 5 * k + 5 ≤ L) (hL : L ≤ 2560) (hm : Rel m) (K : ∀ m2, Rel m2 → Z (lB b L xs) 1032 (lvL k) [] (hp m2) 75 3984) : Z (lB b L xs) 568 (lvL k) [] (hp m) 75 3984 := by
  refine z_aload_n 2 dL_law_568 rfl rfl ?_
  refine z_aload_n 3 dL_law_569 rfl rfl ?_
  refine z_iload_n 0 dL_law_570 rfl rfl ?_
  refine z_iconst 1 dL_law_571 (by decide) ?_
  refine z_iadd dL_law_572 ?_
  refine z_sld dL_law_573 (lcin (j := 1) rfl (by decide) hk hL) ?_
  refine z_aload_n 3 dL_law_574 rfl rfl ?_
  refine z_iload_n 0 dL_law_575 rfl rfl ?_
  refine z_iconst 2 dL_law_576 (by decide) ?_
  refine z_iadd dL_law_577 ?_
  refine z_sld dL_law_578 (lcin (j := 2) rfl (by decide) hk hL) ?_
  obtain ⟨d6, d7, r, m1, m2, hd6, hd7, e6, e7, hr⟩ := hP _ _ m hm
  refine y_Vi (q := 0) (ci := 6) [_, _] _ kL_75 e6 rfl rfl dL_law_579 rfl rfl (Nat.le_of_ble_eq_true rfl) (show d6 + 1 ≤ 1000 by omega) ⟨Nat.le_of_ble_eq_true rfl, Nat.le_of_ble_eq_true rfl⟩ ?_
  refine z_aload_n 1 dL_law_582 rfl rfl ?_
  refine z_aload_n 3 dL_law_583 rfl rfl ?_
  refine z_iload_n 0 dL_law_584 rfl rfl ?_
  refine z_iconst 1 dL_law_585 (by decide) ?_
  refine z_iadd dL_law_586 ?_
  refine z_sld dL_law_587 (lcin (j := 1) rfl (by decide) hk hL) ?_
  refine z_aload_n 3 dL_law_588 rfl rfl ?_
  refine z_iload_n 0 dL_law_589 rfl rfl ?_
  refine z_iconst 2 dL_law_590 (by decide) ?_
  refine z_iadd dL_law_591 ?_
  refine z_sld dL_law_592 (lcin (j := 2) rfl (by decide) hk hL) ?_
  refine y_Vi (q := 57) (ci := 7) [_, _] _ kL_78 e7 rfl rfl dL_law_593 rfl rfl (Nat.le_of_ble_eq_true rfl) (show d7 + 1 ≤ 1000 by omega) ⟨Nat.le_of_ble_eq_true rfl, Nat.le_of_ble_eq_true rfl⟩ ?_
  refine z_icmp_eq 1032 dL_law_596 (by decide) (fun _ => ?_) (fun c => absurd rfl c)
  exact K m2 hr
set_option maxRecDepth 100000 in
theorem lc_offended {b L : Nat} {xs : Nat → Int32} {Rel : zmem → Prop} (hP : (∀ (x0 : Int32), PB MX6_offended MX7_offended [.int x0] Rel)) {k : Nat} {m : zmem} (hk : 5 * k + 5 ≤ L) (hL : L ≤ 2560) (hm : Rel m) (K : ∀ m2, Rel m2 → Z (lB b L xs) 1032 (lvL k) [] (hp m2) 75 3984) : Z (lB b L xs) 601 (lvL k) [] (hp m) 75 3984 := by
  refine z_aload_n 2 dL_law_601 rfl rfl ?_
  refine z_aload_n 3 dL_law_602 rfl rfl ?_
  refine z_iload_n 0 dL_law_603 rfl rfl ?_
  refine z_iconst 1 dL_law_604 (by decide) ?_
  refine z_iadd dL_law_605 ?_
  refine z_sld dL_law_606 (lcin (j := 1) rfl (by decide) hk hL) ?_
  obtain ⟨d6, d7, r, m1, m2, hd6, hd7, e6, e7, hr⟩ := hP _ m hm
  refine y_Vi (q := 0) (ci := 6) [_] _ kL_79 e6 rfl rfl dL_law_607 rfl rfl (Nat.le_of_ble_eq_true rfl) (show d6 + 1 ≤ 1000 by omega) ⟨Nat.le_of_ble_eq_true rfl, Nat.le_of_ble_eq_true rfl⟩ ?_
  refine z_aload_n 1 dL_law_610 rfl rfl ?_
  refine z_aload_n 3 dL_law_611 rfl rfl ?_
  refine z_iload_n 0 dL_law_612 rfl rfl ?_
  refine z_iconst 1 dL_law_613 (by decide) ?_
  refine z_iadd dL_law_614 ?_
  refine z_sld dL_law_615 (lcin (j := 1) rfl (by decide) hk hL) ?_
  refine y_Vi (q := 57) (ci := 7) [_] _ kL_82 e7 rfl rfl dL_law_616 rfl rfl (Nat.le_of_ble_eq_true rfl) (show d7 + 1 ≤ 1000 by omega) ⟨Nat.le_of_ble_eq_true rfl, Nat.le_of_ble_eq_true rfl⟩ ?_
  refine z_icmp_eq 1032 dL_law_619 (by decide) (fun _ => ?_) (fun c => absurd rfl c)
  exact K m2 hr
set_option maxRecDepth 100000 in
theorem lc_quarrels {b L : Nat} {xs : Nat → Int32} {Rel : zmem → Prop} (hP : (PB MX6_quarrels MX7_quarrels [] Rel)) {k : Nat} {m : zmem} (hk : 5 * k + 5 ≤ L) (hL : L ≤ 2560) (hm : Rel m) (K : ∀ m2, Rel m2 → Z (lB b L xs) 1032 (lvL k) [] (hp m2) 75 3984) : Z (lB b L xs) 624 (lvL k) [] (hp m) 75 3984 := by
  refine z_aload_n 2 dL_law_624 rfl rfl ?_
  obtain ⟨d6, d7, r, m1, m2, hd6, hd7, e6, e7, hr⟩ := hP m hm
  refine y_Vi (q := 0) (ci := 6) [] _ kL_83 e6 rfl rfl dL_law_625 rfl rfl (Nat.le_of_ble_eq_true rfl) (show d6 + 1 ≤ 1000 by omega) ⟨Nat.le_of_ble_eq_true rfl, Nat.le_of_ble_eq_true rfl⟩ ?_
  refine z_aload_n 1 dL_law_628 rfl rfl ?_
  refine y_Vi (q := 57) (ci := 7) [] _ kL_86 e7 rfl rfl dL_law_629 rfl rfl (Nat.le_of_ble_eq_true rfl) (show d7 + 1 ≤ 1000 by omega) ⟨Nat.le_of_ble_eq_true rfl, Nat.le_of_ble_eq_true rfl⟩ ?_
  refine z_icmp_eq 1032 dL_law_632 (by decide) (fun _ => ?_) (fun c => absurd rfl c)
  exact K m2 hr
set_option maxRecDepth 100000 in
theorem lc_laying {b L : Nat} {xs : Nat → Int32} {Rel : zmem → Prop} (hP : (∀ (x0 : Int32), PB MX6_laying MX7_laying [.int x0] Rel)) {k : Nat} {m : zmem} (hk : 5 * k + 5 ≤ L) (hL : L ≤ 2560) (hm : Rel m) (K : ∀ m2, Rel m2 → Z (lB b L xs) 1032 (lvL k) [] (hp m2) 75 3984) : Z (lB b L xs) 637 (lvL k) [] (hp m) 75 3984 := by
  refine z_aload_n 2 dL_law_637 rfl rfl ?_
  refine z_aload_n 3 dL_law_638 rfl rfl ?_
  refine z_iload_n 0 dL_law_639 rfl rfl ?_
  refine z_iconst 1 dL_law_640 (by decide) ?_
  refine z_iadd dL_law_641 ?_
  refine z_sld dL_law_642 (lcin (j := 1) rfl (by decide) hk hL) ?_
  obtain ⟨d6, d7, r, m1, m2, hd6, hd7, e6, e7, hr⟩ := hP _ m hm
  refine y_Vi (q := 0) (ci := 6) [_] _ kL_87 e6 rfl rfl dL_law_643 rfl rfl (Nat.le_of_ble_eq_true rfl) (show d6 + 1 ≤ 1000 by omega) ⟨Nat.le_of_ble_eq_true rfl, Nat.le_of_ble_eq_true rfl⟩ ?_
  refine z_aload_n 1 dL_law_646 rfl rfl ?_
  refine z_aload_n 3 dL_law_647 rfl rfl ?_
  refine z_iload_n 0 dL_law_648 rfl rfl ?_
  refine z_iconst 1 dL_law_649 (by decide) ?_
  refine z_iadd dL_law_650 ?_
  refine z_sld dL_law_651 (lcin (j := 1) rfl (by decide) hk hL) ?_
  refine y_Vi (q := 57) (ci := 7) [_] _ kL_90 e7 rfl rfl dL_law_652 rfl rfl (Nat.le_of_ble_eq_true rfl) (show d7 + 1 ≤ 1000 by omega) ⟨Nat.le_of_ble_eq_true rfl, Nat.le_of_ble_eq_true rfl⟩ ?_
  refine z_icmp_eq 1032 dL_law_655 (by decide) (fun _ => ?_) (fun c => absurd rfl c)
  exact K m2 hr
set_option maxRecDepth 100000 in
theorem lc_when {b L : Nat} {xs : Nat → Int32} {Rel : zmem → Prop} (hP : (∀ (x0 x1 : Int32), PB MX6_when MX7_when [.int x0, .int x1] Rel)) {k : Nat} {m : zmem} (hk : 5 * k + 5 ≤ L) (hL : L ≤ 2560) (hm : Rel m) (K : ∀ m2, Rel m2 → Z (lB b L xs) 1032 (lvL k) [] (hp m2) 75 3984) : Z (lB b L xs) 660 (lvL k) [] (hp m) 75 3984 := by
  refine z_aload_n 2 dL_law_660 rfl rfl ?_
  refine z_aload_n 3 dL_law_661 rfl rfl ?_
  refine z_iload_n 0 dL_law_662 rfl rfl ?_
  refine z_iconst 1 dL_law_663 (by decide) ?_
  refine z_iadd dL_law_664 ?_
  refine z_sld dL_law_665 (lcin (j := 1) rfl (by decide) hk hL) ?_
  refine z_aload_n 3 dL_law_666 rfl rfl ?_
  refine z_iload_n 0 dL_law_667 rfl rfl ?_
  refine z_iconst 2 dL_law_668 (by decide) ?_
  refine z_iadd dL_law_669 ?_
  refine z_sld dL_law_670 (lcin (j := 2) rfl (by decide) hk hL) ?_
  obtain ⟨d6, d7, r, m1, m2, hd6, hd7, e6, e7, hr⟩ := hP _ _ m hm
  refine y_Vi (q := 0) (ci := 6) [_, _] _ kL_91 e6 rfl rfl dL_law_671 rfl rfl (Nat.le_of_ble_eq_true rfl) (show d6 + 1 ≤ 1000 by omega) ⟨Nat.le_of_ble_eq_true rfl, Nat.le_of_ble_eq_true rfl⟩ ?_
  refine z_aload_n 1 dL_law_674 rfl rfl ?_
  refine z_aload_n 3 dL_law_675 rfl rfl ?_
  refine z_iload_n 0 dL_law_676 rfl rfl ?_
  refine z_iconst 1 dL_law_677 (by decide) ?_
  refine z_iadd dL_law_678 ?_
  refine z_sld dL_law_679 (lcin (j := 1) rfl (by decide) hk hL) ?_
  refine z_aload_n 3 dL_law_680 rfl rfl ?_
  refine z_iload_n 0 dL_law_681 rfl rfl ?_
  refine z_iconst 2 dL_law_682 (by decide) ?_
  refine z_iadd dL_law_683 ?_
  refine z_sld dL_law_684 (lcin (j := 2) rfl (by decide) hk hL) ?_
  refine y_Vi (q := 57) (ci := 7) [_, _] _ kL_94 e7 rfl rfl dL_law_685 rfl rfl (Nat.le_of_ble_eq_true rfl) (show d7 + 1 ≤ 1000 by omega) ⟨Nat.le_of_ble_eq_true rfl, Nat.le_of_ble_eq_true rfl⟩ ?_
  refine z_icmp_eq 1032 dL_law_688 (by decide) (fun _ => ?_) (fun c => absurd rfl c)
  exact K m2 hr
set_option maxRecDepth 100000 in
theorem lc_span {b L : Nat} {xs : Nat → Int32} {Rel : zmem → Prop} (hP : (∀ (x0 x1 x2 x3 : Int32), PB MX6_span MX7_span [.int x0, .int x1, .int x2, .int x3] Rel)) {k : Nat} {m : zmem} (hk : 5 * k + 5 ≤ L) (hL : L ≤ 2560) (hm : Rel m) (K : ∀ m2, Rel m2 → Z (lB b L xs) 1032 (lvL k) [] (hp m2) 75 3984) : Z (lB b L xs) 693 (lvL k) [] (hp m) 75 3984 := by
  refine z_aload_n 2 dL_law_693 rfl rfl ?_
  refine z_aload_n 3 dL_law_694 rfl rfl ?_
  refine z_iload_n 0 dL_law_695 rfl rfl ?_
  refine z_iconst 1 dL_law_696 (by decide) ?_
  refine z_iadd dL_law_697 ?_
  refine z_sld dL_law_698 (lcin (j := 1) rfl (by decide) hk hL) ?_
  refine z_aload_n 3 dL_law_699 rfl rfl ?_
  refine z_iload_n 0 dL_law_700 rfl rfl ?_
  refine z_iconst 2 dL_law_701 (by decide) ?_
  refine z_iadd dL_law_702 ?_
  refine z_sld dL_law_703 (lcin (j := 2) rfl (by decide) hk hL) ?_
  refine z_aload_n 3 dL_law_704 rfl rfl ?_
  refine z_iload_n 0 dL_law_705 rfl rfl ?_
  refine z_iconst 3 dL_law_706 (by decide) ?_
  refine z_iadd dL_law_707 ?_
  refine z_sld dL_law_708 (lcin (j := 3) rfl (by decide) hk hL) ?_
  refine z_aload_n 3 dL_law_709 rfl rfl ?_
  refine z_iload_n 0 dL_law_710 rfl rfl ?_
  refine z_iconst 4 dL_law_711 (by decide) ?_
  refine z_iadd dL_law_712 ?_
  refine z_sld dL_law_713 (lcin (j := 4) rfl (by decide) hk hL) ?_
  obtain ⟨d6, d7, r, m1, m2, hd6, hd7, e6, e7, hr⟩ := hP _ _ _ _ m hm
  refine y_Vi (q := 0) (ci := 6) [_, _, _, _] _ kL_95 e6 rfl rfl dL_law_714 rfl rfl (Nat.le_of_ble_eq_true rfl) (show d6 + 1 ≤ 1000 by omega) ⟨Nat.le_of_ble_eq_true rfl, Nat.le_of_ble_eq_true rfl⟩ ?_
  refine z_aload_n 1 dL_law_717 rfl rfl ?_
  refine z_aload_n 3 dL_law_718 rfl rfl ?_
  refine z_iload_n 0 dL_law_719 rfl rfl ?_
  refine z_iconst 1 dL_law_720 (by decide) ?_
  refine z_iadd dL_law_721 ?_
  refine z_sld dL_law_722 (lcin (j := 1) rfl (by decide) hk hL) ?_
  refine z_aload_n 3 dL_law_723 rfl rfl ?_
  refine z_iload_n 0 dL_law_724 rfl rfl ?_
  refine z_iconst 2 dL_law_725 (by decide) ?_
  refine z_iadd dL_law_726 ?_
  refine z_sld dL_law_727 (lcin (j := 2) rfl (by decide) hk hL) ?_
  refine z_aload_n 3 dL_law_728 rfl rfl ?_
  refine z_iload_n 0 dL_law_729 rfl rfl ?_
  refine z_iconst 3 dL_law_730 (by decide) ?_
  refine z_iadd dL_law_731 ?_
  refine z_sld dL_law_732 (lcin (j := 3) rfl (by decide) hk hL) ?_
  refine z_aload_n 3 dL_law_733 rfl rfl ?_
  refine z_iload_n 0 dL_law_734 rfl rfl ?_
  refine z_iconst 4 dL_law_735 (by decide) ?_
  refine z_iadd dL_law_736 ?_
  refine z_sld dL_law_737 (lcin (j := 4) rfl (by decide) hk hL) ?_
  refine y_Vi (q := 57) (ci := 7) [_, _, _, _] _ kL_99 e7 rfl rfl dL_law_738 rfl rfl (Nat.le_of_ble_eq_true rfl) (show d7 + 1 ≤ 1000 by omega) ⟨Nat.le_of_ble_eq_true rfl, Nat.le_of_ble_eq_true rfl⟩ ?_
  refine z_icmp_eq 1032 dL_law_741 (by decide) (fun _ => ?_) (fun c => absurd rfl c)
  exact K m2 hr
set_option maxRecDepth 100000 in
theorem lc_bribe {b L : Nat} {xs : Nat → Int32} {Rel : zmem → Prop} (hP : (∀ (x0 x1 : Int32), PB MX6_bribe MX7_bribe [.int x0, .int x1] Rel)) {k : Nat} {m : zmem} (hk : 5 * k + 5 ≤ L) (hL : L ≤ 2560) (hm : Rel m) (K : ∀ m2, Rel m2 → Z (lB b L xs) 1032 (lvL k) [] (hp m2) 75 3984) : Z (lB b L xs) 746 (lvL k) [] (hp m) 75 3984 := by
  refine z_aload_n 2 dL_law_746 rfl rfl ?_
  refine z_aload_n 3 dL_law_747 rfl rfl ?_
  refine z_iload_n 0 dL_law_748 rfl rfl ?_
  refine z_iconst 1 dL_law_749 (by decide) ?_
  refine z_iadd dL_law_750 ?_
  refine z_sld dL_law_751 (lcin (j := 1) rfl (by decide) hk hL) ?_
  refine z_aload_n 3 dL_law_752 rfl rfl ?_
  refine z_iload_n 0 dL_law_753 rfl rfl ?_
  refine z_iconst 2 dL_law_754 (by decide) ?_
  refine z_iadd dL_law_755 ?_
  refine z_sld dL_law_756 (lcin (j := 2) rfl (by decide) hk hL) ?_
  obtain ⟨d6, d7, r, m1, m2, hd6, hd7, e6, e7, hr⟩ := hP _ _ m hm
  refine y_Vi (q := 0) (ci := 6) [_, _] _ kL_100 e6 rfl rfl dL_law_757 rfl rfl (Nat.le_of_ble_eq_true rfl) (show d6 + 1 ≤ 1000 by omega) ⟨Nat.le_of_ble_eq_true rfl, Nat.le_of_ble_eq_true rfl⟩ ?_
  refine z_aload_n 1 dL_law_760 rfl rfl ?_
  refine z_aload_n 3 dL_law_761 rfl rfl ?_
  refine z_iload_n 0 dL_law_762 rfl rfl ?_
  refine z_iconst 1 dL_law_763 (by decide) ?_
  refine z_iadd dL_law_764 ?_
  refine z_sld dL_law_765 (lcin (j := 1) rfl (by decide) hk hL) ?_
  refine z_aload_n 3 dL_law_766 rfl rfl ?_
  refine z_iload_n 0 dL_law_767 rfl rfl ?_
  refine z_iconst 2 dL_law_768 (by decide) ?_
  refine z_iadd dL_law_769 ?_
  refine z_sld dL_law_770 (lcin (j := 2) rfl (by decide) hk hL) ?_
  refine y_Vi (q := 57) (ci := 7) [_, _] _ kL_103 e7 rfl rfl dL_law_771 rfl rfl (Nat.le_of_ble_eq_true rfl) (show d7 + 1 ≤ 1000 by omega) ⟨Nat.le_of_ble_eq_true rfl, Nat.le_of_ble_eq_true rfl⟩ ?_
  refine z_icmp_eq 1032 dL_law_774 (by decide) (fun _ => ?_) (fun c => absurd rfl c)
  exact K m2 hr
set_option maxRecDepth 100000 in
theorem lc_label {b L : Nat} {xs : Nat → Int32} {Rel : zmem → Prop} (hP : (∀ (x0 x1 : Int32), PB MX6_label MX7_label [.int x0, .int x1] Rel)) {k : Nat} {m : zmem} (hk : 5 * k + 5 ≤ L) (hL : L ≤ 2560) (hm : Rel m) (K : ∀ m2, Rel m2 → Z (lB b L xs) 1032 (lvL k) [] (hp m2) 75 3984) : Z (lB b L xs) 779 (lvL k) [] (hp m) 75 3984 := by
  refine z_aload_n 2 dL_law_779 rfl rfl ?_
  refine z_aload_n 3 dL_law_780 rfl rfl ?_
  refine z_iload_n 0 dL_law_781 rfl rfl ?_
  refine z_iconst 1 dL_law_782 (by decide) ?_
  refine z_iadd dL_law_783 ?_
  refine z_sld dL_law_784 (lcin (j := 1) rfl (by decide) hk hL) ?_
  refine z_aload_n 3 dL_law_785 rfl rfl ?_
  refine z_iload_n 0 dL_law_786 rfl rfl ?_
  refine z_iconst 2 dL_law_787 (by decide) ?_
  refine z_iadd dL_law_788 ?_
  refine z_sld dL_law_789 (lcin (j := 2) rfl (by decide) hk hL) ?_
  obtain ⟨d6, d7, r, m1, m2, hd6, hd7, e6, e7, hr⟩ := hP _ _ m hm
  refine y_Vi (q := 0) (ci := 6) [_, _] _ kL_104 e6 rfl rfl dL_law_790 rfl rfl (Nat.le_of_ble_eq_true rfl) (show d6 + 1 ≤ 1000 by omega) ⟨Nat.le_of_ble_eq_true rfl, Nat.le_of_ble_eq_true rfl⟩ ?_
  refine z_aload_n 1 dL_law_793 rfl rfl ?_
  refine z_aload_n 3 dL_law_794 rfl rfl ?_
  refine z_iload_n 0 dL_law_795 rfl rfl ?_
  refine z_iconst 1 dL_law_796 (by decide) ?_
  refine z_iadd dL_law_797 ?_
  refine z_sld dL_law_798 (lcin (j := 1) rfl (by decide) hk hL) ?_
  refine z_aload_n 3 dL_law_799 rfl rfl ?_
  refine z_iload_n 0 dL_law_800 rfl rfl ?_
  refine z_iconst 2 dL_law_801 (by decide) ?_
  refine z_iadd dL_law_802 ?_
  refine z_sld dL_law_803 (lcin (j := 2) rfl (by decide) hk hL) ?_
  refine y_Vi (q := 57) (ci := 7) [_, _] _ kL_107 e7 rfl rfl dL_law_804 rfl rfl (Nat.le_of_ble_eq_true rfl) (show d7 + 1 ≤ 1000 by omega) ⟨Nat.le_of_ble_eq_true rfl, Nat.le_of_ble_eq_true rfl⟩ ?_
  refine z_icmp_eq 1032 dL_law_807 (by decide) (fun _ => ?_) (fun c => absurd rfl c)
  exact K m2 hr
set_option maxRecDepth 100000 in
theorem lc_mark {b L : Nat} {xs : Nat → Int32} {Rel : zmem → Prop} (hP : (∀ (x0 x1 : Int32), PB MX6_mark MX7_mark [.int x0, .int x1] Rel)) {k : Nat} {m : zmem} (hk : 5 * k + 5 ≤ L) (hL : L ≤ 2560) (hm : Rel m) (K : ∀ m2, Rel m2 → Z (lB b L xs) 1032 (lvL k) [] (hp m2) 75 3984) : Z (lB b L xs) 812 (lvL k) [] (hp m) 75 3984 := by
  refine z_aload_n 2 dL_law_812 rfl rfl ?_
  refine z_aload_n 3 dL_law_813 rfl rfl ?_
  refine z_iload_n 0 dL_law_814 rfl rfl ?_
  refine z_iconst 1 dL_law_815 (by decide) ?_
  refine z_iadd dL_law_816 ?_
  refine z_sld dL_law_817 (lcin (j := 1) rfl (by decide) hk hL) ?_
  refine z_aload_n 3 dL_law_818 rfl rfl ?_
  refine z_iload_n 0 dL_law_819 rfl rfl ?_
  refine z_iconst 2 dL_law_820 (by decide) ?_
  refine z_iadd dL_law_821 ?_
  refine z_sld dL_law_822 (lcin (j := 2) rfl (by decide) hk hL) ?_
  obtain ⟨d6, d7, r, m1, m2, hd6, hd7, e6, e7, hr⟩ := hP _ _ m hm
  refine y_Vi (q := 0) (ci := 6) [_, _] _ kL_108 e6 rfl rfl dL_law_823 rfl rfl (Nat.le_of_ble_eq_true rfl) (show d6 + 1 ≤ 1000 by omega) ⟨Nat.le_of_ble_eq_true rfl, Nat.le_of_ble_eq_true rfl⟩ ?_
  refine z_aload_n 1 dL_law_826 rfl rfl ?_
  refine z_aload_n 3 dL_law_827 rfl rfl ?_
  refine z_iload_n 0 dL_law_828 rfl rfl ?_
  refine z_iconst 1 dL_law_829 (by decide) ?_
  refine z_iadd dL_law_830 ?_
  refine z_sld dL_law_831 (lcin (j := 1) rfl (by decide) hk hL) ?_
  refine z_aload_n 3 dL_law_832 rfl rfl ?_
  refine z_iload_n 0 dL_law_833 rfl rfl ?_
  refine z_iconst 2 dL_law_834 (by decide) ?_
  refine z_iadd dL_law_835 ?_
  refine z_sld dL_law_836 (lcin (j := 2) rfl (by decide) hk hL) ?_
  refine y_Vi (q := 57) (ci := 7) [_, _] _ kL_111 e7 rfl rfl dL_law_837 rfl rfl (Nat.le_of_ble_eq_true rfl) (show d7 + 1 ≤ 1000 by omega) ⟨Nat.le_of_ble_eq_true rfl, Nat.le_of_ble_eq_true rfl⟩ ?_
  refine z_icmp_eq 1032 dL_law_840 (by decide) (fun _ => ?_) (fun c => absurd rfl c)
  exact K m2 hr
set_option maxRecDepth 100000 in
theorem lc_fits {b L : Nat} {xs : Nat → Int32} {Rel : zmem → Prop} (hP : (PB MX6_fits MX7_fits [] Rel)) {k : Nat} {m : zmem} (hk : 5 * k + 5 ≤ L) (hL : L ≤ 2560) (hm : Rel m) (K : ∀ m2, Rel m2 → Z (lB b L xs) 1032 (lvL k) [] (hp m2) 75 3984) : Z (lB b L xs) 845 (lvL k) [] (hp m) 75 3984 := by
  refine z_aload_n 2 dL_law_845 rfl rfl ?_
  obtain ⟨d6, d7, r, m1, m2, hd6, hd7, e6, e7, hr⟩ := hP m hm
  refine y_Vi (q := 0) (ci := 6) [] _ kL_112 e6 rfl rfl dL_law_846 rfl rfl (Nat.le_of_ble_eq_true rfl) (show d6 + 1 ≤ 1000 by omega) ⟨Nat.le_of_ble_eq_true rfl, Nat.le_of_ble_eq_true rfl⟩ ?_
  refine z_aload_n 1 dL_law_849 rfl rfl ?_
  refine y_Vi (q := 57) (ci := 7) [] _ kL_115 e7 rfl rfl dL_law_850 rfl rfl (Nat.le_of_ble_eq_true rfl) (show d7 + 1 ≤ 1000 by omega) ⟨Nat.le_of_ble_eq_true rfl, Nat.le_of_ble_eq_true rfl⟩ ?_
  refine z_icmp_eq 1032 dL_law_853 (by decide) (fun _ => ?_) (fun c => absurd rfl c)
  exact K m2 hr
set_option maxRecDepth 100000 in
theorem lc_mixed {b L : Nat} {xs : Nat → Int32} {Rel : zmem → Prop} (hP : (∀ (x0 : Int32), PB MX6_mixed MX7_mixed [.int x0] Rel)) {k : Nat} {m : zmem} (hk : 5 * k + 5 ≤ L) (hL : L ≤ 2560) (hm : Rel m) (K : ∀ m2, Rel m2 → Z (lB b L xs) 1032 (lvL k) [] (hp m2) 75 3984) : Z (lB b L xs) 858 (lvL k) [] (hp m) 75 3984 := by
  refine z_aload_n 2 dL_law_858 rfl rfl ?_
  refine z_aload_n 3 dL_law_859 rfl rfl ?_
  refine z_iload_n 0 dL_law_860 rfl rfl ?_
  refine z_iconst 1 dL_law_861 (by decide) ?_
  refine z_iadd dL_law_862 ?_
  refine z_sld dL_law_863 (lcin (j := 1) rfl (by decide) hk hL) ?_
  obtain ⟨d6, d7, r, m1, m2, hd6, hd7, e6, e7, hr⟩ := hP _ m hm
  refine y_Vi (q := 0) (ci := 6) [_] _ kL_116 e6 rfl rfl dL_law_864 rfl rfl (Nat.le_of_ble_eq_true rfl) (show d6 + 1 ≤ 1000 by omega) ⟨Nat.le_of_ble_eq_true rfl, Nat.le_of_ble_eq_true rfl⟩ ?_
  refine z_aload_n 1 dL_law_867 rfl rfl ?_
  refine z_aload_n 3 dL_law_868 rfl rfl ?_
  refine z_iload_n 0 dL_law_869 rfl rfl ?_
  refine z_iconst 1 dL_law_870 (by decide) ?_
  refine z_iadd dL_law_871 ?_
  refine z_sld dL_law_872 (lcin (j := 1) rfl (by decide) hk hL) ?_
  refine y_Vi (q := 57) (ci := 7) [_] _ kL_119 e7 rfl rfl dL_law_873 rfl rfl (Nat.le_of_ble_eq_true rfl) (show d7 + 1 ≤ 1000 by omega) ⟨Nat.le_of_ble_eq_true rfl, Nat.le_of_ble_eq_true rfl⟩ ?_
  refine z_icmp_eq 1032 dL_law_876 (by decide) (fun _ => ?_) (fun c => absurd rfl c)
  exact K m2 hr
set_option maxRecDepth 100000 in
theorem lc_churches {b L : Nat} {xs : Nat → Int32} {Rel : zmem → Prop} (hP : (∀ (x0 : Int32), PB MX6_churches MX7_churches [.int x0] Rel)) {k : Nat} {m : zmem} (hk : 5 * k + 5 ≤ L) (hL : L ≤ 2560) (hm : Rel m) (K : ∀ m2, Rel m2 → Z (lB b L xs) 1032 (lvL k) [] (hp m2) 75 3984) : Z (lB b L xs) 881 (lvL k) [] (hp m) 75 3984 := by
  refine z_aload_n 2 dL_law_881 rfl rfl ?_
  refine z_aload_n 3 dL_law_882 rfl rfl ?_
  refine z_iload_n 0 dL_law_883 rfl rfl ?_
  refine z_iconst 1 dL_law_884 (by decide) ?_
  refine z_iadd dL_law_885 ?_
  refine z_sld dL_law_886 (lcin (j := 1) rfl (by decide) hk hL) ?_
  obtain ⟨d6, d7, r, m1, m2, hd6, hd7, e6, e7, hr⟩ := hP _ m hm
  refine y_Vi (q := 0) (ci := 6) [_] _ kL_120 e6 rfl rfl dL_law_887 rfl rfl (Nat.le_of_ble_eq_true rfl) (show d6 + 1 ≤ 1000 by omega) ⟨Nat.le_of_ble_eq_true rfl, Nat.le_of_ble_eq_true rfl⟩ ?_
  refine z_aload_n 1 dL_law_890 rfl rfl ?_
  refine z_aload_n 3 dL_law_891 rfl rfl ?_
  refine z_iload_n 0 dL_law_892 rfl rfl ?_
  refine z_iconst 1 dL_law_893 (by decide) ?_
  refine z_iadd dL_law_894 ?_
  refine z_sld dL_law_895 (lcin (j := 1) rfl (by decide) hk hL) ?_
  refine y_Vi (q := 57) (ci := 7) [_] _ kL_123 e7 rfl rfl dL_law_896 rfl rfl (Nat.le_of_ble_eq_true rfl) (show d7 + 1 ≤ 1000 by omega) ⟨Nat.le_of_ble_eq_true rfl, Nat.le_of_ble_eq_true rfl⟩ ?_
  refine z_icmp_eq 1032 dL_law_899 (by decide) (fun _ => ?_) (fun c => absurd rfl c)
  exact K m2 hr
set_option maxRecDepth 100000 in
theorem lc_write {b L : Nat} {xs : Nat → Int32} {Rel : zmem → Prop} (hP : (∀ (x0 x1 : Int32), PB MX6_write MX7_write [.int x0, .int x1] Rel)) {k : Nat} {m : zmem} (hk : 5 * k + 5 ≤ L) (hL : L ≤ 2560) (hm : Rel m) (K : ∀ m2, Rel m2 → Z (lB b L xs) 1032 (lvL k) [] (hp m2) 75 3984) : Z (lB b L xs) 904 (lvL k) [] (hp m) 75 3984 := by
  refine z_aload_n 2 dL_law_904 rfl rfl ?_
  refine z_aload_n 3 dL_law_905 rfl rfl ?_
  refine z_iload_n 0 dL_law_906 rfl rfl ?_
  refine z_iconst 1 dL_law_907 (by decide) ?_
  refine z_iadd dL_law_908 ?_
  refine z_sld dL_law_909 (lcin (j := 1) rfl (by decide) hk hL) ?_
  refine z_aload_n 3 dL_law_910 rfl rfl ?_
  refine z_iload_n 0 dL_law_911 rfl rfl ?_
  refine z_iconst 2 dL_law_912 (by decide) ?_
  refine z_iadd dL_law_913 ?_
  refine z_sld dL_law_914 (lcin (j := 2) rfl (by decide) hk hL) ?_
  obtain ⟨d6, d7, r, m1, m2, hd6, hd7, e6, e7, hr⟩ := hP _ _ m hm
  refine y_Vi (q := 0) (ci := 6) [_, _] _ kL_124 e6 rfl rfl dL_law_915 rfl rfl (Nat.le_of_ble_eq_true rfl) (show d6 + 1 ≤ 1000 by omega) ⟨Nat.le_of_ble_eq_true rfl, Nat.le_of_ble_eq_true rfl⟩ ?_
  refine z_aload_n 1 dL_law_918 rfl rfl ?_
  refine z_aload_n 3 dL_law_919 rfl rfl ?_
  refine z_iload_n 0 dL_law_920 rfl rfl ?_
  refine z_iconst 1 dL_law_921 (by decide) ?_
  refine z_iadd dL_law_922 ?_
  refine z_sld dL_law_923 (lcin (j := 1) rfl (by decide) hk hL) ?_
  refine z_aload_n 3 dL_law_924 rfl rfl ?_
  refine z_iload_n 0 dL_law_925 rfl rfl ?_
  refine z_iconst 2 dL_law_926 (by decide) ?_
  refine z_iadd dL_law_927 ?_
  refine z_sld dL_law_928 (lcin (j := 2) rfl (by decide) hk hL) ?_
  refine y_Vi (q := 57) (ci := 7) [_, _] _ kL_127 e7 rfl rfl dL_law_929 rfl rfl (Nat.le_of_ble_eq_true rfl) (show d7 + 1 ≤ 1000 by omega) ⟨Nat.le_of_ble_eq_true rfl, Nat.le_of_ble_eq_true rfl⟩ ?_
  refine z_icmp_eq 1032 dL_law_932 (by decide) (fun _ => ?_) (fun c => absurd rfl c)
  exact K m2 hr
set_option maxRecDepth 100000 in
theorem lc_tear {b L : Nat} {xs : Nat → Int32} {Rel : zmem → Prop} (hP : (PB MX6_tear MX7_tear [] Rel)) {k : Nat} {m : zmem} (hk : 5 * k + 5 ≤ L) (hL : L ≤ 2560) (hm : Rel m) (K : ∀ m2, Rel m2 → Z (lB b L xs) 1032 (lvL k) [] (hp m2) 75 3984) : Z (lB b L xs) 937 (lvL k) [] (hp m) 75 3984 := by
  refine z_aload_n 2 dL_law_937 rfl rfl ?_
  obtain ⟨d6, d7, r, m1, m2, hd6, hd7, e6, e7, hr⟩ := hP m hm
  refine y_Vi (q := 0) (ci := 6) [] _ kL_128 e6 rfl rfl dL_law_938 rfl rfl (Nat.le_of_ble_eq_true rfl) (show d6 + 1 ≤ 1000 by omega) ⟨Nat.le_of_ble_eq_true rfl, Nat.le_of_ble_eq_true rfl⟩ ?_
  refine z_aload_n 1 dL_law_941 rfl rfl ?_
  refine y_Vi (q := 57) (ci := 7) [] _ kL_131 e7 rfl rfl dL_law_942 rfl rfl (Nat.le_of_ble_eq_true rfl) (show d7 + 1 ≤ 1000 by omega) ⟨Nat.le_of_ble_eq_true rfl, Nat.le_of_ble_eq_true rfl⟩ ?_
  refine z_icmp_eq 1032 dL_law_945 (by decide) (fun _ => ?_) (fun c => absurd rfl c)
  exact K m2 hr
set_option maxRecDepth 100000 in
theorem lc_judge {b L : Nat} {xs : Nat → Int32} {Rel : zmem → Prop} (hP : (PB MX6_judge MX7_judge [] Rel)) {k : Nat} {m : zmem} (hk : 5 * k + 5 ≤ L) (hL : L ≤ 2560) (hm : Rel m) (K : ∀ m2, Rel m2 → Z (lB b L xs) 1032 (lvL k) [] (hp m2) 75 3984) : Z (lB b L xs) 950 (lvL k) [] (hp m) 75 3984 := by
  refine z_aload_n 2 dL_law_950 rfl rfl ?_
  obtain ⟨d6, d7, r, m1, m2, hd6, hd7, e6, e7, hr⟩ := hP m hm
  refine y_Vi (q := 0) (ci := 6) [] _ kL_132 e6 rfl rfl dL_law_951 rfl rfl (Nat.le_of_ble_eq_true rfl) (show d6 + 1 ≤ 1000 by omega) ⟨Nat.le_of_ble_eq_true rfl, Nat.le_of_ble_eq_true rfl⟩ ?_
  refine z_aload_n 1 dL_law_954 rfl rfl ?_
  refine y_Vi (q := 57) (ci := 7) [] _ kL_135 e7 rfl rfl dL_law_955 rfl rfl (Nat.le_of_ble_eq_true rfl) (show d7 + 1 ≤ 1000 by omega) ⟨Nat.le_of_ble_eq_true rfl, Nat.le_of_ble_eq_true rfl⟩ ?_
  refine z_icmp_eq 1032 dL_law_958 (by decide) (fun _ => ?_) (fun c => absurd rfl c)
  exact K m2 hr
set_option maxRecDepth 100000 in
theorem lc_seed {b L : Nat} {xs : Nat → Int32} {Rel : zmem → Prop} (hP : (∀ (x0 : Int32), PB MX6_seed MX7_seed [.int x0] Rel)) {k : Nat} {m : zmem} (hk : 5 * k + 5 ≤ L) (hL : L ≤ 2560) (hm : Rel m) (K : ∀ m2, Rel m2 → Z (lB b L xs) 1032 (lvL k) [] (hp m2) 75 3984) : Z (lB b L xs) 963 (lvL k) [] (hp m) 75 3984 := by
  refine z_aload_n 2 dL_law_963 rfl rfl ?_
  refine z_aload_n 3 dL_law_964 rfl rfl ?_
  refine z_iload_n 0 dL_law_965 rfl rfl ?_
  refine z_iconst 1 dL_law_966 (by decide) ?_
  refine z_iadd dL_law_967 ?_
  refine z_sld dL_law_968 (lcin (j := 1) rfl (by decide) hk hL) ?_
  obtain ⟨d6, d7, r, m1, m2, hd6, hd7, e6, e7, hr⟩ := hP _ m hm
  refine y_Vi (q := 0) (ci := 6) [_] _ kL_136 e6 rfl rfl dL_law_969 rfl rfl (Nat.le_of_ble_eq_true rfl) (show d6 + 1 ≤ 1000 by omega) ⟨Nat.le_of_ble_eq_true rfl, Nat.le_of_ble_eq_true rfl⟩ ?_
  refine z_aload_n 1 dL_law_972 rfl rfl ?_
  refine z_aload_n 3 dL_law_973 rfl rfl ?_
  refine z_iload_n 0 dL_law_974 rfl rfl ?_
  refine z_iconst 1 dL_law_975 (by decide) ?_
  refine z_iadd dL_law_976 ?_
  refine z_sld dL_law_977 (lcin (j := 1) rfl (by decide) hk hL) ?_
  refine y_Vi (q := 57) (ci := 7) [_] _ kL_139 e7 rfl rfl dL_law_978 rfl rfl (Nat.le_of_ble_eq_true rfl) (show d7 + 1 ≤ 1000 by omega) ⟨Nat.le_of_ble_eq_true rfl, Nat.le_of_ble_eq_true rfl⟩ ?_
  refine z_icmp_eq 1032 dL_law_981 (by decide) (fun _ => ?_) (fun c => absurd rfl c)
  exact K m2 hr
set_option maxRecDepth 100000 in
theorem lc_keep {b L : Nat} {xs : Nat → Int32} {Rel : zmem → Prop} (hP : (∀ (x0 : Int32), PB MX6_keep MX7_keep [.int x0] Rel)) {k : Nat} {m : zmem} (hk : 5 * k + 5 ≤ L) (hL : L ≤ 2560) (hm : Rel m) (K : ∀ m2, Rel m2 → Z (lB b L xs) 1032 (lvL k) [] (hp m2) 75 3984) : Z (lB b L xs) 986 (lvL k) [] (hp m) 75 3984 := by
  refine z_aload_n 2 dL_law_986 rfl rfl ?_
  refine z_aload_n 3 dL_law_987 rfl rfl ?_
  refine z_iload_n 0 dL_law_988 rfl rfl ?_
  refine z_iconst 1 dL_law_989 (by decide) ?_
  refine z_iadd dL_law_990 ?_
  refine z_sld dL_law_991 (lcin (j := 1) rfl (by decide) hk hL) ?_
  obtain ⟨d6, d7, r, m1, m2, hd6, hd7, e6, e7, hr⟩ := hP _ m hm
  refine y_Vi (q := 0) (ci := 6) [_] _ kL_140 e6 rfl rfl dL_law_992 rfl rfl (Nat.le_of_ble_eq_true rfl) (show d6 + 1 ≤ 1000 by omega) ⟨Nat.le_of_ble_eq_true rfl, Nat.le_of_ble_eq_true rfl⟩ ?_
  refine z_aload_n 1 dL_law_995 rfl rfl ?_
  refine z_aload_n 3 dL_law_996 rfl rfl ?_
  refine z_iload_n 0 dL_law_997 rfl rfl ?_
  refine z_iconst 1 dL_law_998 (by decide) ?_
  refine z_iadd dL_law_999 ?_
  refine z_sld dL_law_1000 (lcin (j := 1) rfl (by decide) hk hL) ?_
  refine y_Vi (q := 57) (ci := 7) [_] _ kL_143 e7 rfl rfl dL_law_1001 rfl rfl (Nat.le_of_ble_eq_true rfl) (show d7 + 1 ≤ 1000 by omega) ⟨Nat.le_of_ble_eq_true rfl, Nat.le_of_ble_eq_true rfl⟩ ?_
  refine z_icmp_eq 1032 dL_law_1004 (by decide) (fun _ => ?_) (fun c => absurd rfl c)
  exact K m2 hr
set_option maxRecDepth 100000 in
theorem lc_goBack {b L : Nat} {xs : Nat → Int32} {Rel : zmem → Prop} (hP : (∀ (x0 : Int32), PB MX6_goBack MX7_goBack [.int x0] Rel)) {k : Nat} {m : zmem} (hk : 5 * k + 5 ≤ L) (hL : L ≤ 2560) (hm : Rel m) (K : ∀ m2, Rel m2 → Z (lB b L xs) 1032 (lvL k) [] (hp m2) 75 3984) : Z (lB b L xs) 1009 (lvL k) [] (hp m) 75 3984 := by
  refine z_aload_n 2 dL_law_1009 rfl rfl ?_
  refine z_aload_n 3 dL_law_1010 rfl rfl ?_
  refine z_iload_n 0 dL_law_1011 rfl rfl ?_
  refine z_iconst 1 dL_law_1012 (by decide) ?_
  refine z_iadd dL_law_1013 ?_
  refine z_sld dL_law_1014 (lcin (j := 1) rfl (by decide) hk hL) ?_
  obtain ⟨d6, d7, r, m1, m2, hd6, hd7, e6, e7, hr⟩ := hP _ m hm
  refine y_Vi (q := 0) (ci := 6) [_] _ kL_144 e6 rfl rfl dL_law_1015 rfl rfl (Nat.le_of_ble_eq_true rfl) (show d6 + 1 ≤ 1000 by omega) ⟨Nat.le_of_ble_eq_true rfl, Nat.le_of_ble_eq_true rfl⟩ ?_
  refine z_aload_n 1 dL_law_1018 rfl rfl ?_
  refine z_aload_n 3 dL_law_1019 rfl rfl ?_
  refine z_iload_n 0 dL_law_1020 rfl rfl ?_
  refine z_iconst 1 dL_law_1021 (by decide) ?_
  refine z_iadd dL_law_1022 ?_
  refine z_sld dL_law_1023 (lcin (j := 1) rfl (by decide) hk hL) ?_
  refine y_Vi (q := 57) (ci := 7) [_] _ kL_147 e7 rfl rfl dL_law_1024 rfl rfl (Nat.le_of_ble_eq_true rfl) (show d7 + 1 ≤ 1000 by omega) ⟨Nat.le_of_ble_eq_true rfl, Nat.le_of_ble_eq_true rfl⟩ ?_
  refine z_icmp_eq 1032 dL_law_1027 (by decide) (fun _ => ?_) (fun c => absurd rfl c)
  exact K m2 hr
set_option maxRecDepth 100000 in
def EqA (Rel : zmem → Prop) : Prop := (∀ (x0 : Int32) (x1 : Int64), PB MX6_feed MX7_feed [.int x0, .long x1] Rel) ∧ (PB MX6_parish MX7_parish [] Rel) ∧ (PB MX6_custom MX7_custom [] Rel) ∧ (PB MX6_fault MX7_fault [] Rel) ∧ (∀ (x0 : Int32), PB MX6_told MX7_told [.int x0] Rel) ∧ (∀ (x0 x1 : Int32), PB MX6_yard MX7_yard [.int x0, .int x1] Rel) ∧ (∀ (x0 x1 : Int32), PB MX6_dead MX7_dead [.int x0, .int x1] Rel) ∧ (∀ (x0 : Int32), PB MX6_order MX7_order [.int x0] Rel) ∧ (∀ (x0 x1 : Int32), PB MX6_letter MX7_letter [.int x0, .int x1] Rel) ∧ (∀ (x0 x1 : Int32), PB MX6_gift MX7_gift [.int x0, .int x1] Rel) ∧ (∀ (x0 : Int32), PB MX6_knock MX7_knock [.int x0] Rel) ∧ (∀ (x0 : Int32), PB MX6_day MX7_day [.int x0] Rel) ∧ (∀ (x0 x1 : Int32), PB MX6_rats MX7_rats [.int x0, .int x1] Rel) ∧ (∀ (x0 x1 : Int32), PB MX6_lay MX7_lay [.int x0, .int x1] Rel) ∧ (∀ (x0 x1 : Int32), PB MX6_spring MX7_spring [.int x0, .int x1] Rel) ∧ (∀ (x0 : Int32), PB MX6_offended MX7_offended [.int x0] Rel) ∧ (PB MX6_quarrels MX7_quarrels [] Rel) ∧ (∀ (x0 : Int32), PB MX6_laying MX7_laying [.int x0] Rel) ∧ (∀ (x0 x1 : Int32), PB MX6_when MX7_when [.int x0, .int x1] Rel) ∧ (∀ (x0 x1 x2 x3 : Int32), PB MX6_span MX7_span [.int x0, .int x1, .int x2, .int x3] Rel) ∧ (∀ (x0 x1 : Int32), PB MX6_bribe MX7_bribe [.int x0, .int x1] Rel) ∧ (∀ (x0 x1 : Int32), PB MX6_label MX7_label [.int x0, .int x1] Rel) ∧ (∀ (x0 x1 : Int32), PB MX6_mark MX7_mark [.int x0, .int x1] Rel) ∧ (PB MX6_fits MX7_fits [] Rel) ∧ (∀ (x0 : Int32), PB MX6_mixed MX7_mixed [.int x0] Rel) ∧ (∀ (x0 : Int32), PB MX6_churches MX7_churches [.int x0] Rel) ∧ (∀ (x0 x1 : Int32), PB MX6_write MX7_write [.int x0, .int x1] Rel) ∧ (PB MX6_tear MX7_tear [] Rel) ∧ (PB MX6_judge MX7_judge [] Rel) ∧ (∀ (x0 : Int32), PB MX6_seed MX7_seed [.int x0] Rel) ∧ (∀ (x0 : Int32), PB MX6_keep MX7_keep [.int x0] Rel) ∧ (∀ (x0 : Int32), PB MX6_goBack MX7_goBack [.int x0] Rel)
set_option maxRecDepth 100000 in
theorem law_loop {b L : Nat} {xs : Nat → Int32} {Rel : zmem → Prop} (E : EqA Rel) (hL : L ≤ 2560) : ∀ (n k : Nat) (m : zmem), k + n = 513 → Rel m → Z (lB b L xs) 18 (lvL k) [] (hp m) 75 3984 := by
  intro n
  induction n with
  | zero =>
    intro k m hk hm
    refine z_iload_n 0 dL_law_18 rfl rfl ?_
    refine z_aload_n 3 dL_law_19 rfl rfl ?_
    refine z_sln dL_law_20 ?_
    refine z_iconst 5 dL_law_21 (by decide) ?_
    refine z_isub dL_law_22 ?_
    refine z_icmp_gt 1038 dL_law_23 (by decide) (fun _ => ?_) (fun c => ?_)
    · refine z_iconst 1 dL_law_1038 (by decide) ?_
      exact z_lwret dL_law_1039 (by decide) (by decide)
    · have := lcle hL (by omega) c
      omega
  | succ n ih =>
    intro k m hk hm
    refine z_iload_n 0 dL_law_18 rfl rfl ?_
    refine z_aload_n 3 dL_law_19 rfl rfl ?_
    refine z_sln dL_law_20 ?_
    refine z_iconst 5 dL_law_21 (by decide) ?_
    refine z_isub dL_law_22 ?_
    refine z_icmp_gt 1038 dL_law_23 (by decide) (fun _ => ?_) (fun c => ?_)
    · refine z_iconst 1 dL_law_1038 (by decide) ?_
      exact z_lwret dL_law_1039 (by decide) (by decide)
    · have hk5 := lcle hL (by omega) c
      have K : ∀ m2, Rel m2 → Z (lB b L xs) 1032 (lvL k) [] (hp m2) 75 3984 := fun m2 h2 => by
        refine z_iinc 0 (Int32.ofNat (5 * (k + 1))) dL_law_1032 rfl (Int32.ofNat_add (5 * k) 5).symm (Nat.le_of_ble_eq_true rfl) (lv' := lvL (k + 1)) rfl ?_
        refine z_goto 18 dL_law_1035 (by decide) ?_
        exact ih (k + 1) m2 (by omega) h2
      refine z_aload_n 3 dL_law_26 rfl rfl ?_
      refine z_iload_n 0 dL_law_27 rfl rfl ?_
      refine z_sld dL_law_28 (lcin0 hk5 hL) ?_
      refine z_bipush 31 dL_law_29 (by decide) ?_
      refine z_iand dL_law_31 ?_
      obtain ⟨j, hj, ej⟩ := and31 (xs (Int32.ofNat (5 * k)).toNatClampNeg)
      rw [ej]
      match j, hj with
      | 0, _ => exact z_tab 176 dL_law_32 (by decide) (by decide) rfl (by decide) (lc_feed (E.1) hk5 hL hm K)
      | 1, _ => exact z_tab 239 dL_law_32 (by decide) (by decide) rfl (by decide) (lc_parish (E.2.1) hk5 hL hm K)
      | 2, _ => exact z_tab 252 dL_law_32 (by decide) (by decide) rfl (by decide) (lc_custom (E.2.2.1) hk5 hL hm K)
      | 3, _ => exact z_tab 265 dL_law_32 (by decide) (by decide) rfl (by decide) (lc_fault (E.2.2.2.1) hk5 hL hm K)
      | 4, _ => exact z_tab 278 dL_law_32 (by decide) (by decide) rfl (by decide) (lc_told (E.2.2.2.2.1) hk5 hL hm K)
      | 5, _ => exact z_tab 301 dL_law_32 (by decide) (by decide) rfl (by decide) (lc_yard (E.2.2.2.2.2.1) hk5 hL hm K)
      | 6, _ => exact z_tab 334 dL_law_32 (by decide) (by decide) rfl (by decide) (lc_dead (E.2.2.2.2.2.2.1) hk5 hL hm K)
      | 7, _ => exact z_tab 367 dL_law_32 (by decide) (by decide) rfl (by decide) (lc_order (E.2.2.2.2.2.2.2.1) hk5 hL hm K)
      | 8, _ => exact z_tab 390 dL_law_32 (by decide) (by decide) rfl (by decide) (lc_letter (E.2.2.2.2.2.2.2.2.1) hk5 hL hm K)
      | 9, _ => exact z_tab 423 dL_law_32 (by decide) (by decide) rfl (by decide) (lc_gift (E.2.2.2.2.2.2.2.2.2.1) hk5 hL hm K)
      | 10, _ => exact z_tab 456 dL_law_32 (by decide) (by decide) rfl (by decide) (lc_knock (E.2.2.2.2.2.2.2.2.2.2.1) hk5 hL hm K)
      | 11, _ => exact z_tab 479 dL_law_32 (by decide) (by decide) rfl (by decide) (lc_day (E.2.2.2.2.2.2.2.2.2.2.2.1) hk5 hL hm K)
      | 12, _ => exact z_tab 502 dL_law_32 (by decide) (by decide) rfl (by decide) (lc_rats (E.2.2.2.2.2.2.2.2.2.2.2.2.1) hk5 hL hm K)
      | 13, _ => exact z_tab 535 dL_law_32 (by decide) (by decide) rfl (by decide) (lc_lay (E.2.2.2.2.2.2.2.2.2.2.2.2.2.1) hk5 hL hm K)
      | 14, _ => exact z_tab 568 dL_law_32 (by decide) (by decide) rfl (by decide) (lc_spring (E.2.2.2.2.2.2.2.2.2.2.2.2.2.2.1) hk5 hL hm K)
      | 15, _ => exact z_tab 601 dL_law_32 (by decide) (by decide) rfl (by decide) (lc_offended (E.2.2.2.2.2.2.2.2.2.2.2.2.2.2.2.1) hk5 hL hm K)
      | 16, _ => exact z_tab 624 dL_law_32 (by decide) (by decide) rfl (by decide) (lc_quarrels (E.2.2.2.2.2.2.2.2.2.2.2.2.2.2.2.2.1) hk5 hL hm K)
      | 17, _ => exact z_tab 637 dL_law_32 (by decide) (by decide) rfl (by decide) (lc_laying (E.2.2.2.2.2.2.2.2.2.2.2.2.2.2.2.2.2.1) hk5 hL hm K)
      | 18, _ => exact z_tab 660 dL_law_32 (by decide) (by decide) rfl (by decide) (lc_when (E.2.2.2.2.2.2.2.2.2.2.2.2.2.2.2.2.2.2.1) hk5 hL hm K)
      | 19, _ => exact z_tab 693 dL_law_32 (by decide) (by decide) rfl (by decide) (lc_span (E.2.2.2.2.2.2.2.2.2.2.2.2.2.2.2.2.2.2.2.1) hk5 hL hm K)
      | 20, _ => exact z_tab 746 dL_law_32 (by decide) (by decide) rfl (by decide) (lc_bribe (E.2.2.2.2.2.2.2.2.2.2.2.2.2.2.2.2.2.2.2.2.1) hk5 hL hm K)
      | 21, _ => exact z_tab 779 dL_law_32 (by decide) (by decide) rfl (by decide) (lc_label (E.2.2.2.2.2.2.2.2.2.2.2.2.2.2.2.2.2.2.2.2.2.1) hk5 hL hm K)
      | 22, _ => exact z_tab 812 dL_law_32 (by decide) (by decide) rfl (by decide) (lc_mark (E.2.2.2.2.2.2.2.2.2.2.2.2.2.2.2.2.2.2.2.2.2.2.1) hk5 hL hm K)
      | 23, _ => exact z_tab 845 dL_law_32 (by decide) (by decide) rfl (by decide) (lc_fits (E.2.2.2.2.2.2.2.2.2.2.2.2.2.2.2.2.2.2.2.2.2.2.2.1) hk5 hL hm K)
      | 24, _ => exact z_tab 858 dL_law_32 (by decide) (by decide) rfl (by decide) (lc_mixed (E.2.2.2.2.2.2.2.2.2.2.2.2.2.2.2.2.2.2.2.2.2.2.2.2.1) hk5 hL hm K)
      | 25, _ => exact z_tab 881 dL_law_32 (by decide) (by decide) rfl (by decide) (lc_churches (E.2.2.2.2.2.2.2.2.2.2.2.2.2.2.2.2.2.2.2.2.2.2.2.2.2.1) hk5 hL hm K)
      | 26, _ => exact z_tab 904 dL_law_32 (by decide) (by decide) rfl (by decide) (lc_write (E.2.2.2.2.2.2.2.2.2.2.2.2.2.2.2.2.2.2.2.2.2.2.2.2.2.2.1) hk5 hL hm K)
      | 27, _ => exact z_tab 937 dL_law_32 (by decide) (by decide) rfl (by decide) (lc_tear (E.2.2.2.2.2.2.2.2.2.2.2.2.2.2.2.2.2.2.2.2.2.2.2.2.2.2.2.1) hk5 hL hm K)
      | 28, _ => exact z_tab 950 dL_law_32 (by decide) (by decide) rfl (by decide) (lc_judge (E.2.2.2.2.2.2.2.2.2.2.2.2.2.2.2.2.2.2.2.2.2.2.2.2.2.2.2.2.1) hk5 hL hm K)
      | 29, _ => exact z_tab 963 dL_law_32 (by decide) (by decide) rfl (by decide) (lc_seed (E.2.2.2.2.2.2.2.2.2.2.2.2.2.2.2.2.2.2.2.2.2.2.2.2.2.2.2.2.2.1) hk5 hL hm K)
      | 30, _ => exact z_tab 986 dL_law_32 (by decide) (by decide) rfl (by decide) (lc_keep (E.2.2.2.2.2.2.2.2.2.2.2.2.2.2.2.2.2.2.2.2.2.2.2.2.2.2.2.2.2.2.1) hk5 hL hm K)
      | 31, _ => exact z_tab 1009 dL_law_32 (by decide) (by decide) rfl (by decide) (lc_goBack (E.2.2.2.2.2.2.2.2.2.2.2.2.2.2.2.2.2.2.2.2.2.2.2.2.2.2.2.2.2.2.2) hk5 hL hm K)
      | n + 32, h => omega
set_option maxRecDepth 100000 in
theorem law_body {b L : Nat} {xs : Nat → Int32} {Rel : zmem → Prop} (E : EqA Rel) (h0 : Rel m00) (hL : L ≤ 2560) : Z (lB b L xs) 0 [(0, .ref (zE0 + 50))] [] [] 0 0 := by
  refine z_newo nwL_7 (by decide) (Nat.le_of_ble_eq_true rfl) (Nat.le_of_ble_eq_true rfl) dL_law_0 ?_
  refine z_dup dL_law_3 rfl ?_
  refine z_callI (q := 0) [] kL_9 (cn6 (by decide)) dL_law_4 rfl (Nat.le_of_ble_eq_true rfl) (Nat.le_of_ble_eq_true rfl) (Nat.le_of_ble_eq_true rfl) (Nat.le_of_ble_eq_true rfl) (fun o h1 hq => ?_)
  obtain ⟨e1, e2⟩ := hq
  subst e1; subst e2
  refine z_astore_n (lv' := [(1, .ref 0), (0, .ref (zE0 + 50))]) dL_law_7 rfl (Nat.le_of_ble_eq_true rfl) rfl ?_
  refine z_newo nwL_10 (by decide) (Nat.le_of_ble_eq_true rfl) (Nat.le_of_ble_eq_true rfl) dL_law_8 ?_
  refine z_dup dL_law_11 rfl ?_
  refine z_callI (q := 57) [] kL_12 (cn7r (q := 57) rfl (by decide)) dL_law_12 rfl (Nat.le_of_ble_eq_true rfl) (Nat.le_of_ble_eq_true rfl) (Nat.le_of_ble_eq_true rfl) (Nat.le_of_ble_eq_true rfl) (fun o h1 hq => ?_)
  obtain ⟨e1, e2⟩ := hq
  subst e1; subst e2
  rw [hp_m00]
  refine z_astore_n (lv' := [(2, .ref 57), (1, .ref 0), (0, .ref (zE0 + 50))]) dL_law_15 rfl (Nat.le_of_ble_eq_true rfl) rfl ?_
  refine z_iconst 0 dL_law_16 (by decide) ?_
  refine z_istore_n (lv' := lvL 0) dL_law_17 rfl (Nat.le_of_ble_eq_true rfl) rfl ?_
  exact law_loop E hL 513 0 m00 rfl h0
