theorem KI.of3 {x : Nat × Int32 × zmem} {t : Nat} {kd : Int32} {m' : zmem} (h : KI x.1 x.2.1) (e : x = (t, kd, m')) : KI t kd := by
  subst e
  exact h
theorem rcus1 {n t tR : Nat} {kd : Int32} {mm mR : zmem} (h : rcusP (n + 1) (t, kd, mm) tR mR) (c : ¬ mm 57 16 = 0) : tR = t ∧ mR = mm := by
  unfold rcusP at h
  rw [if_pos c] at h
  exact h
theorem rcus2 {n t tR : Nat} {kd : Int32} {mm mR : zmem} (h : rcusP (n + 1) (t, kd, mm) tR mR) (c : ¬ ¬ mm 57 16 = 0) (c2 : rhr mm < 0) : tR = t ∧ mR = rat mm (rblk mm) := by
  unfold rcusP at h
  rw [if_neg c, if_pos c2] at h
  exact h
theorem rcus3 {n t tR : Nat} {kd : Int32} {mm mR : zmem} (h : rcusP (n + 1) (t, kd, mm) tR mR) (c : ¬ ¬ mm 57 16 = 0) (c2 : ¬ rhr mm < 0) : rcusP n (rct t kd (rtw (rat mm (rblk mm)))) tR mR := by
  unfold rcusP at h
  rw [if_neg c, if_neg c2] at h
  exact h
set_option maxRecDepth 100000 in
set_option maxHeartbeats 4000000 in
theorem c7_custom {m mR : zmem} {L F tR : Nat} (hL : m 57 12 = Int32.ofNat L) (hL4 : L ≤ 400) (hP : rcusP F (0, 0, rstart m) tR mR) : Ei MX7_custom 3 [.ref 57] m ((rk_custom tR mR).1) ((rk_custom tR mR).2) := by
  refine Ei.of (by decide) (Nat.le_of_ble_eq_true rfl) ?_
  show Z _ 0 [(0, .ref 57)] _ _ _ _
  refine z_aload_n 0 dX7_custom_0 rfl rfl ?_
  refine y_V0 [] _ kX7_141 c7_start rfl rfl dX7_custom_1 rfl rfl (Nat.le_of_ble_eq_true rfl) (Nat.le_of_ble_eq_true rfl) ⟨Nat.zero_le _, Nat.zero_le _⟩ ?_
  have join182 : tR ≤ 4 → Z (zMB (Qi ((rk_custom tR mR).1) ((rk_custom tR mR).2)) 3 MX7_custom) 182 [(0, .ref 57), (1, .int (Int32.ofNat tR))] [] (hp mR) 0 0 := by
    intro htR
    refine z_aload_n 0 dX7_custom_182 rfl rfl ?_
    refine z_iconst 0 dX7_custom_183 (by decide) ?_
    refine y_putI fX7_82 dX7_custom_184 rfl rfl ?_
    refine y_mem (m1 := rpar0 mR) rfl ?_
    refine z_aload_n 0 dX7_custom_187 rfl rfl ?_
    refine y_getI fX7_91 dX7_custom_188 rfl rfl ?_
    refine z_if_le 202 dX7_custom_191 (by decide) (fun c_1 => ?_) (fun c_1 => ?_)
    · refine z_iconst 0 dX7_custom_202 (by decide) ?_
      refine z_istore_n (lv' := [(3, .int 0), (0, .ref 57), (1, .int (Int32.ofNat tR))]) dX7_custom_203 rfl (Nat.le_of_ble_eq_true rfl) rfl ?_
      have loop204 : ∀ (q : Nat) (k : Nat) (mm : zmem), k + q = tR → sfold rcc tR 0 (rpar0 mR) = sfold rcc q k mm → Z (zMB (Qi ((rk_custom tR mR).1) ((rk_custom tR mR).2)) 3 MX7_custom) 204 [(0, .ref 57), (1, .int (Int32.ofNat tR)), (3, .int (Int32.ofNat k))] [] (hp mm) 0 0 := by
        intro q
        induction q with
        | zero =>
          intro k mm hk hr
          refine z_iload_n 2 dX7_custom_204 rfl rfl ?_
          refine z_iload_n 1 dX7_custom_205 rfl rfl ?_
          refine z_icmp_ge 227 dX7_custom_206 (by decide) (fun c_2 => ?_) (fun c_2 => ?_)
          · refine z_aload_n 0 dX7_custom_227 rfl rfl ?_
            refine z_iload_n 1 dX7_custom_228 rfl rfl ?_
            refine y_putI fX7_72 dX7_custom_229 rfl rfl ?_
            refine z_iload_n 1 dX7_custom_232 rfl rfl ?_
            exact y_iret dX7_custom_233 rfl (by first | (rw [rk_custom, if_pos c_1]; done) | (rw [rk_custom, if_neg c_1]; done)) (by first | (rw [rk_custom, if_pos c_1, hr]; rfl) | (rw [rk_custom, if_neg c_1]; done))
          · exact (dz rfl (b := Int32.ofNat tR) (N := tR) rfl (by omega) (by omega) c_2).elim
        | succ q ih204 =>
          intro k mm hk hr
          refine z_iload_n 2 dX7_custom_204 rfl rfl ?_
          refine z_iload_n 1 dX7_custom_205 rfl rfl ?_
          refine z_icmp_ge 227 dX7_custom_206 (by decide) (fun c_3 => ?_) (fun c_3 => ?_)
          · exact (ds rfl (b := Int32.ofNat tR) (N := tR) rfl (by omega) (by omega) c_3).elim
          · refine z_aload_n 0 dX7_custom_209 rfl rfl ?_
            refine y_getR fX7_39 dX7_custom_210 rfl rfl ?_
            refine z_iload_n 2 dX7_custom_213 rfl rfl ?_
            refine z_aload_n 0 dX7_custom_214 rfl rfl ?_
            refine y_getR fX7_48 dX7_custom_215 rfl rfl ?_
            refine z_iload_n 2 dX7_custom_218 rfl rfl ?_
            refine y_ald (N := k) dX7_custom_219 rfl rfl (by omega) ?_
            refine y_ast (N := k) dX7_custom_220 rfl rfl (by omega) ?_
            obtain ⟨v_4, e_4⟩ : ∃ y : Int32, y = (Int32.ofNat k) + 1 := ⟨_, rfl⟩
            refine z_iinc (lv' := [(3, .int v_4), (0, .ref 57), (1, .int (Int32.ofNat tR))]) 2 v_4 dX7_custom_221 rfl (by rw [e_4]; rfl) (Nat.le_of_ble_eq_true rfl) rfl ?_
            refine z_goto 204 dX7_custom_224 (by decide) ?_
            obtain rfl : v_4 = Int32.ofNat (k + 1) := e_4.trans (nat_succ k)
            refine z_sub [1,2,0] rfl ?_
            exact ih204 (k + 1) _ (by omega) hr
      refine z_sub [1,2,0] rfl ?_
      exact loop204 (tR) 0 _ (by omega) rfl
    · refine z_bipush (-10) dX7_custom_194 (by decide) ?_
      refine z_aload_n 0 dX7_custom_196 rfl rfl ?_
      refine y_getI fX7_91 dX7_custom_197 rfl rfl ?_
      refine z_isub dX7_custom_200 ?_
      exact y_iret dX7_custom_201 rfl (by first | (rw [rk_custom, if_pos c_1]; done) | (rw [rk_custom, if_neg c_1]; done)) (by first | (rw [rk_custom, if_pos c_1, hr]; rfl) | (rw [rk_custom, if_neg c_1]; done))
  refine z_iconst 0 dX7_custom_4 (by decide) ?_
  refine z_istore_n (lv' := [(1, .int 0), (0, .ref 57)]) dX7_custom_5 rfl (Nat.le_of_ble_eq_true rfl) rfl ?_
  refine z_iconst 0 dX7_custom_6 (by decide) ?_
  refine z_istore_n (lv' := [(2, .int 0), (1, .int 0), (0, .ref 57)]) dX7_custom_7 rfl (Nat.le_of_ble_eq_true rfl) rfl ?_
  have loop8 : ∀ (n : Nat) (t : Nat) (kd : Int32) (mm : zmem), rcusP n (t, kd, mm) tR mR → RT mm → KI t kd → Z (zMB (Qi ((rk_custom tR mR).1) ((rk_custom tR mR).2)) 3 MX7_custom) 8 [(0, .ref 57), (1, .int (Int32.ofNat t)), (2, .int kd)] [] (hp mm) 0 0 := by
    intro n
    induction n with
    | zero =>
      intro t kd mm hP hT hK
      exact hP.elim
    | succ n ih8 =>
      intro t kd mm hP hT hK
      refine z_aload_n 0 dX7_custom_8 rfl rfl ?_
      refine y_getI fX7_91 dX7_custom_9 rfl rfl ?_
      refine z_if_ne 182 dX7_custom_12 (by decide) (fun c_5 => ?_) (fun c_5 => ?_)
      · obtain ⟨rfl, rfl⟩ : tR = t ∧ mR = mm := rcus1 hP c_5
        refine z_sub [0,1] rfl ?_
        exact join182 hK.le
      · refine z_aload_n 0 dX7_custom_15 rfl rfl ?_
        refine y_Vi [] _ kX7_94 (c7_here hT) rfl rfl dX7_custom_16 rfl rfl (Nat.le_of_ble_eq_true rfl) (Nat.le_of_ble_eq_true rfl) ⟨Nat.zero_le _, Nat.zero_le _⟩ ?_
        refine z_if_lt 182 dX7_custom_19 (by decide) (fun c_6 => ?_) (fun c_6 => ?_)
        · obtain ⟨rfl, rfl⟩ : tR = t ∧ mR = rat mm (rblk mm) := rcus2 hP (fun q => q c_5) c_6
          refine z_sub [0,1] rfl ?_
          exact join182 hK.le
        · refine z_aload_n 0 dX7_custom_22 rfl rfl ?_
          refine y_V0 [] _ kX7_117 (c7_word hT.here) rfl rfl dX7_custom_23 rfl rfl (Nat.le_of_ble_eq_true rfl) (Nat.le_of_ble_eq_true rfl) ⟨Nat.zero_le _, Nat.zero_le _⟩ ?_
          obtain ⟨m1, hm1⟩ : ∃ x, x = rtw (rat mm (rblk mm)) := ⟨_, rfl⟩
          refine y_mem (m1 := m1) hm1.symm ?_
          have h1 : RT m1 := by { rw [hm1]; exact RT.tws hT }
          refine z_aload_n 0 dX7_custom_26 rfl rfl ?_
          have join175 : ∀ (t5 : Nat) (kd5 : Int32) (m5 : zmem), rct t kd m1 = (t5, kd5, rend m5) → RT m5 → Z (zMB (Qi ((rk_custom tR mR).1) ((rk_custom tR mR).2)) 3 MX7_custom) 175 [(0, .ref 57), (1, .int (Int32.ofNat t5)), (2, .int kd5)] [] (hp m5) 0 0 := by
            intro t5 kd5 m5 h5 hT5
            refine z_aload_n 0 dX7_custom_175 rfl rfl ?_
            refine y_V0 [] _ kX7_138 (c7_end hT5) rfl rfl dX7_custom_176 rfl rfl (Nat.le_of_ble_eq_true rfl) (Nat.le_of_ble_eq_true rfl) ⟨Nat.zero_le _, Nat.zero_le _⟩ ?_
            refine z_goto 8 dX7_custom_179 (by decide) ?_
            refine z_sub [0,1,2] rfl ?_
            exact ih8 t5 _ _ (by have q := rcus3 hP (fun q => q c_5) c_6; rw [← hm1, h5] at q; exact q) hT5.fin (KI.of3 (hK.ct h1).1 h5)
          have join112 : ∀ (kk : Int32), kk = rkind m1 → Z (zMB (Qi ((rk_custom tR mR).1) ((rk_custom tR mR).2)) 3 MX7_custom) 112 [(0, .ref 57), (1, .int (Int32.ofNat t)), (2, .int kd)] [.int kk] (hp m1) 0 0 := by
            intro kk hkk
            refine z_istore_n (lv' := [(3, .int kk), (0, .ref 57), (1, .int (Int32.ofNat t)), (2, .int kd)]) dX7_custom_112 rfl (Nat.le_of_ble_eq_true rfl) rfl ?_
            have join123 : ∀ (g : Int32), g = rcg1 m1 → Z (zMB (Qi ((rk_custom tR mR).1) ((rk_custom tR mR).2)) 3 MX7_custom) 123 [(0, .ref 57), (1, .int (Int32.ofNat t)), (2, .int kd), (3, .int kk)] [.int g, .ref 57] (hp m1) 0 0 := by
              intro g hg1
              refine z_iconst 1 dX7_custom_123 (by decide) ?_
              refine z_aload_n 0 dX7_custom_124 rfl rfl ?_
              refine y_getI fX7_98 dX7_custom_125 rfl rfl ?_
              refine y_Vi [_, _, _] _ kX7_112 c7_want rfl rfl dX7_custom_128 rfl rfl (Nat.le_of_ble_eq_true rfl) (Nat.le_of_ble_eq_true rfl) ⟨Nat.zero_le _, Nat.zero_le _⟩ ?_
              refine z_if_eq 175 dX7_custom_131 (by decide) (fun c_7 => ?_) (fun c_7 => ?_)
              · skip
                refine z_sub [0,1,2] rfl ?_
                exact join175 t kd _ (by have a1 : rwantr m1 (rcg1 m1) 1 (m1 57 14) = 0 := by { rw [← hg1]; exact c_7 }; rw [rct, if_pos a1, rcw1, ← hg1]) (RT.want h1)
              · obtain ⟨m2, hm2⟩ : ∃ x, x = rcw1 m1 := ⟨_, rfl⟩
                refine y_mem (m1 := m2) (by rw [hm2, rcw1, ← hg1]) ?_
                have h2 : RT m2 := by { rw [hm2, rcw1]; exact RT.want h1 }
                refine z_aload_n 0 dX7_custom_134 rfl rfl ?_
                have join148 : ∀ (g2 : Int32), g2 = rcg2 m1 kd → Z (zMB (Qi ((rk_custom tR mR).1) ((rk_custom tR mR).2)) 3 MX7_custom) 148 [(0, .ref 57), (1, .int (Int32.ofNat t)), (2, .int kd), (3, .int kk)] [.int g2, .ref 57] (hp m2) 0 0 := by
                  intro g2 hg2
                  refine z_iconst 3 dX7_custom_148 (by decide) ?_
                  refine z_aload_n 0 dX7_custom_149 rfl rfl ?_
                  refine y_getI fX7_98 dX7_custom_150 rfl rfl ?_
                  refine y_Vi [_, _, _] _ kX7_112 c7_want rfl rfl dX7_custom_153 rfl rfl (Nat.le_of_ble_eq_true rfl) (Nat.le_of_ble_eq_true rfl) ⟨Nat.zero_le _, Nat.zero_le _⟩ ?_
                  refine z_if_eq 175 dX7_custom_156 (by decide) (fun c_8 => ?_) (fun c_8 => ?_)
                  · skip
                    refine z_sub [0,1,2] rfl ?_
                    exact join175 t kd _ (by have a1 : ¬ rwantr m1 (rcg1 m1) 1 (m1 57 14) = 0 := by { rw [← hg1]; exact c_7 }; have a2 : rwantr (rcw1 m1) (rcg2 m1 kd) 3 (rcw1 m1 57 14) = 0 := by { rw [← hg2, ← hm2]; exact c_8 }; rw [rct, if_neg a1, if_pos a2, rcw2, ← hm2, ← hg2]) (RT.want h2)
                  · obtain ⟨m3, hm3⟩ : ∃ x, x = rcw2 m1 kd := ⟨_, rfl⟩
                    refine y_mem (m1 := m3) (by rw [hm3, rcw2, ← hm2, ← hg2]) ?_
                    have h3 : RT m3 := by { rw [hm3, rcw2, rcw1]; exact RT.want (RT.want h1) }
                    have ht8 := hK.le
                    refine z_iload_n 2 dX7_custom_159 rfl rfl ?_
                    refine z_iconst 1 dX7_custom_160 (by decide) ?_
                    refine z_iload_n 3 dX7_custom_161 rfl rfl ?_
                    refine z_ishl dX7_custom_162 ?_
                    refine z_ior dX7_custom_163 ?_
                    refine z_topi (fun v_9 e_9 => ?_)
                    refine z_istore_n (lv' := [(2, .int v_9), (0, .ref 57), (1, .int (Int32.ofNat t)), (3, .int kk)]) dX7_custom_164 rfl (Nat.le_of_ble_eq_true rfl) rfl ?_
                    refine z_aload_n 1 dX7_custom_165 rfl rfl ?_
                    refine y_getR fX7_48 dX7_custom_166 rfl rfl ?_
                    refine z_iload_n 2 dX7_custom_169 rfl rfl ?_
                    refine z_iload_n 3 dX7_custom_170 rfl rfl ?_
                    refine y_ast (N := t) dX7_custom_171 rfl rfl (by omega) ?_
                    obtain ⟨v_10, e_10⟩ : ∃ y : Int32, y = (Int32.ofNat t) + 1 := ⟨_, rfl⟩
                    refine z_iinc (lv' := [(1, .int v_10), (2, .int v_9), (0, .ref 57), (3, .int kk)]) 2 v_10 dX7_custom_172 rfl (by rw [e_10]; rfl) (Nat.le_of_ble_eq_true rfl) rfl ?_
                    obtain rfl : v_10 = Int32.ofNat (t + 1) := e_10.trans (nat_succ t); subst e_9
                    refine z_sub [2,0,1] rfl ?_
                    exact join175 (t + 1) _ _ (by have a1 : ¬ rwantr m1 (rcg1 m1) 1 (m1 57 14) = 0 := by { rw [← hg1]; exact c_7 }; have a2 : ¬ rwantr (rcw1 m1) (rcg2 m1 kd) 3 (rcw1 m1 57 14) = 0 := by { rw [← hg2, ← hm2]; exact c_8 }; rw [rct, if_neg a1, if_neg a2, ← hm3, ← hkk]) (RT.cell h3 (by decide))
                refine z_iload_n 2 dX7_custom_135 rfl rfl ?_
                refine z_iload_n 3 dX7_custom_136 rfl rfl ?_
                refine y_Si [_, _] _ kX7_150 c7_has dX7_custom_137 rfl rfl (Nat.le_of_ble_eq_true rfl) (Nat.le_of_ble_eq_true rfl) ⟨Nat.zero_le _, Nat.zero_le _⟩ ?_
                refine z_if_ne 147 dX7_custom_140 (by decide) (fun c_11 => ?_) (fun c_11 => ?_)
                · refine z_iconst 0 dX7_custom_147 (by decide) ?_
                  refine z_sub [0,1,2,3] rfl ?_
                  exact join148 _ (by simp only [rcg2, ← hkk, c_5, c_6, c_7, c_11, eq_self, if_true, not_true_eq_false, not_false_eq_true, if_false, reduceIte])
                · refine z_iconst 1 dX7_custom_143 (by decide) ?_
                  refine z_goto 148 dX7_custom_144 (by decide) ?_
                  refine z_sub [0,1,2,3] rfl ?_
                  exact join148 _ (by simp only [rcg2, ← hkk, c_5, c_6, c_7, c_11, eq_self, if_true, not_true_eq_false, not_false_eq_true, if_false, reduceIte])
            refine z_aload_n 1 dX7_custom_113 rfl rfl ?_
            refine z_iload_n 0 dX7_custom_114 rfl rfl ?_
            refine z_if_lt 122 dX7_custom_115 (by decide) (fun c_12 => ?_) (fun c_12 => ?_)
            · refine z_iconst 0 dX7_custom_122 (by decide) ?_
              refine z_sub [1,2,3,0] rfl ?_
              exact join123 _ (by simp only [rcg1, ← hkk, c_5, c_6, c_12, eq_self, if_true, not_true_eq_false, not_false_eq_true, if_false, reduceIte])
            · refine z_iconst 1 dX7_custom_118 (by decide) ?_
              refine z_goto 123 dX7_custom_119 (by decide) ?_
              refine z_sub [1,2,3,0] rfl ?_
              exact join123 _ (by simp only [rcg1, ← hkk, c_5, c_6, c_12, eq_self, if_true, not_true_eq_false, not_false_eq_true, if_false, reduceIte])
          refine z_iconst 4 dX7_custom_27 (by decide) ?_
          refine z_bipush 114 dX7_custom_28 (by decide) ?_
          refine z_bipush 97 dX7_custom_30 (by decide) ?_
          refine z_bipush 110 dX7_custom_32 (by decide) ?_
          refine z_bipush 107 dX7_custom_34 (by decide) ?_
          refine z_iconst 0 dX7_custom_36 (by decide) ?_
          refine y_Vi [_, _, _, _, _, _] _ kX7_120 (c7_isw1 (N := 4) hT.here hm1) rfl rfl dX7_custom_37 rfl rfl (Nat.le_of_ble_eq_true rfl) (Nat.le_of_ble_eq_true rfl) ⟨Nat.zero_le _, Nat.zero_le _⟩ ?_
          refine z_if_eq 47 dX7_custom_40 (by decide) (fun c_13 => ?_) (fun c_13 => ?_)
          · refine z_aload_n 0 dX7_custom_47 rfl rfl ?_
            refine z_iconst 5 dX7_custom_48 (by decide) ?_
            refine z_bipush 119 dX7_custom_49 (by decide) ?_
            refine z_bipush 97 dX7_custom_51 (by decide) ?_
            refine z_bipush 105 dX7_custom_53 (by decide) ?_
            refine z_bipush 116 dX7_custom_55 (by decide) ?_
            refine z_bipush 115 dX7_custom_57 (by decide) ?_
            refine y_Vi [_, _, _, _, _, _] _ kX7_120 (c7_isw1 (N := 5) hT.here hm1) rfl rfl dX7_custom_59 rfl rfl (Nat.le_of_ble_eq_true rfl) (Nat.le_of_ble_eq_true rfl) ⟨Nat.zero_le _, Nat.zero_le _⟩ ?_
            refine z_if_eq 69 dX7_custom_62 (by decide) (fun c_14 => ?_) (fun c_14 => ?_)
            · refine z_aload_n 0 dX7_custom_69 rfl rfl ?_
              refine z_iconst 5 dX7_custom_70 (by decide) ?_
              refine z_bipush 103 dX7_custom_71 (by decide) ?_
              refine z_bipush 105 dX7_custom_73 (by decide) ?_
              refine z_bipush 102 dX7_custom_75 (by decide) ?_
              refine z_bipush 116 dX7_custom_77 (by decide) ?_
              refine z_bipush 115 dX7_custom_79 (by decide) ?_
              refine y_Vi [_, _, _, _, _, _] _ kX7_120 (c7_isw1 (N := 5) hT.here hm1) rfl rfl dX7_custom_81 rfl rfl (Nat.le_of_ble_eq_true rfl) (Nat.le_of_ble_eq_true rfl) ⟨Nat.zero_le _, Nat.zero_le _⟩ ?_
              refine z_if_eq 91 dX7_custom_84 (by decide) (fun c_15 => ?_) (fun c_15 => ?_)
              · refine z_aload_n 0 dX7_custom_91 rfl rfl ?_
                refine z_iconst 3 dX7_custom_92 (by decide) ?_
                refine z_bipush 107 dX7_custom_93 (by decide) ?_
                refine z_bipush 105 dX7_custom_95 (by decide) ?_
                refine z_bipush 110 dX7_custom_97 (by decide) ?_
                refine z_iconst 0 dX7_custom_99 (by decide) ?_
                refine z_iconst 0 dX7_custom_100 (by decide) ?_
                refine y_Vi [_, _, _, _, _, _] _ kX7_120 (c7_isw1 (N := 3) hT.here hm1) rfl rfl dX7_custom_101 rfl rfl (Nat.le_of_ble_eq_true rfl) (Nat.le_of_ble_eq_true rfl) ⟨Nat.zero_le _, Nat.zero_le _⟩ ?_
                refine z_if_eq 111 dX7_custom_104 (by decide) (fun c_16 => ?_) (fun c_16 => ?_)
                · refine z_iconst (-1) dX7_custom_111 (by decide) ?_
                  refine z_sub [0,1,2] rfl ?_
                  exact join112 _ (by simp only [rkind, c_5, c_6, c_13, c_14, c_15, c_16, eq_self, if_true, not_true_eq_false, not_false_eq_true, if_false, reduceIte])
                · refine z_iconst 3 dX7_custom_107 (by decide) ?_
                  refine z_goto 112 dX7_custom_108 (by decide) ?_
                  refine z_sub [0,1,2] rfl ?_
                  exact join112 _ (by simp only [rkind, c_5, c_6, c_13, c_14, c_15, c_16, eq_self, if_true, not_true_eq_false, not_false_eq_true, if_false, reduceIte])
              · refine z_iconst 2 dX7_custom_87 (by decide) ?_
                refine z_goto 112 dX7_custom_88 (by decide) ?_
                refine z_sub [0,1,2] rfl ?_
                exact join112 _ (by simp only [rkind, c_5, c_6, c_13, c_14, c_15, eq_self, if_true, not_true_eq_false, not_false_eq_true, if_false, reduceIte])
            · refine z_iconst 1 dX7_custom_65 (by decide) ?_
              refine z_goto 112 dX7_custom_66 (by decide) ?_
              refine z_sub [0,1,2] rfl ?_
              exact join112 _ (by simp only [rkind, c_5, c_6, c_13, c_14, eq_self, if_true, not_true_eq_false, not_false_eq_true, if_false, reduceIte])
          · refine z_iconst 0 dX7_custom_43 (by decide) ?_
            refine z_goto 112 dX7_custom_44 (by decide) ?_
            refine z_sub [0,1,2] rfl ?_
            exact join112 _ (by simp only [rkind, c_5, c_6, c_13, eq_self, if_true, not_true_eq_false, not_false_eq_true, if_false, reduceIte])
  refine z_sub [2,1,0] rfl ?_
  exact loop8 F 0 _ _ hP (RT.p0 hL hL4) ⟨0, by decide, rfl, rfl⟩
