/-! the reference: parish and custom -/
def rreadP : Nat → zmem → zmem → Prop
  | 0, _, _ => False
  | n + 1, m, mR => if ¬ m 57 16 = 0 then mR = m else if rhr m < 0 then mR = rat m (rblk m) else rreadP n (rcl (rat m (rblk m))) mR
def rp0 (m : zmem) : zmem := mset (mset (mset (mset (mset (rstart m) 64 2 0) 64 3 0) 57 18 0) 57 19 6) 57 20 2
def rpar0 (m : zmem) : zmem := mset m 57 12 0
def rq60 (k : Nat) (m : zmem) : zmem := mset m 60 k (m 60 (8 + k))
def rq61 (k : Nat) (m : zmem) : zmem := mset m 61 k (m 61 (8 + k))
def rq62 (k : Nat) (m : zmem) : zmem := mset m 62 k (m 62 (8 + k))
def rq63 (k : Nat) (m : zmem) : zmem := mset m 63 k (m 63 (8 + k))
def rw0 (k : Nat) (m : zmem) : zmem := wp m 0 0 (Int32.ofNat k) (m 60 k)
def rw8 (k : Nat) (m : zmem) : zmem := wp m 0 8 (Int32.ofNat k) (m 61 k)
def rw16 (k : Nat) (m : zmem) : zmem := wp m 0 16 (Int32.ofNat k) (m 62 k)
def rwc (o k : Nat) (v : Int32) (m : zmem) : zmem := wp m 0 o (Int32.ofNat k) v
def rw64 (k : Nat) (m : zmem) : zmem := wp m 0 64 (Int32.ofNat k) ((1 <<< (m 64 1 &&& 31)) - 1)
def rps (k : Nat) (m : zmem) : zmem := rw64 k (rwc 56 k (Int32.ofNat k) (rwc 48 k 0 (rwc 40 k (-1) (rwc 32 k 9 (rwc 24 k 0 (rw16 k (rw8 k (rw0 k (rq63 k (rq62 k (rq61 k (rq60 k m))))))))))))
def rqm0 (m : zmem) : zmem := mset m 64 0 (m 64 2)
def rqm1 (m : zmem) : zmem := mset m 64 1 (m 64 3)
def rf2 (m : zmem) : zmem := mset m 57 2 (m 57 19)
def rf3 (m : zmem) : zmem := mset m 57 3 (m 57 20)
def rpar1 (m : zmem) : zmem := rf3 (rf2 (rqm1 (rqm0 m)))
def rpar2 (m : zmem) : zmem := sfold rps 8 0 (rpar1 m)
def rpar3 (m : zmem) : zmem := mset (mset (mset (mset m 58 72 0) 57 30 0) 59 0 0) 59 1 0
def rk_parish (mR : zmem) : Int32 × zmem := if rpar0 mR 57 16 ≤ 0 then (rpar3 (rpar2 (rpar0 mR)) 64 1, rpar3 (rpar2 (rpar0 mR))) else (-10 - rpar0 mR 57 16, rpar0 mR)
theorem RM.p0 {m : zmem} {L : Nat} (hL : m 57 12 = Int32.ofNat L) (hL4 : L ≤ 400) : RM (rp0 m) := by
  have e12 : rp0 m 57 12 = Int32.ofNat L := by rw [← hL]; simp [rp0, rstart, mset]
  have e13 : rp0 m 57 13 = Int32.ofNat 0 := by simp [rp0, rstart, mset]
  have eL : rL (rp0 m) = L := by rw [rL, e12, natc (by omega)]
  have eP : rP (rp0 m) = 0 := by rw [rP, e13]; rfl
  refine ⟨⟨by rw [eL, e12], by omega, by rw [eP, e13], by omega⟩, ?_, ?_⟩
  · rw [show rp0 m 64 2 = 0 by simp [rp0, rstart, mset]]; unfold vp_in; decide
  · rw [show rp0 m 64 3 = 0 by simp [rp0, rstart, mset]]; unfold vp_in; decide
def rkind (m : zmem) : Int32 := if rws m 4 114 97 110 107 0 = 0 then (if rws m 5 119 97 105 116 115 = 0 then (if rws m 5 103 105 102 116 115 = 0 then (if rws m 3 107 105 110 0 0 = 0 then -1 else 3) else 2) else 1) else 0
def rcg1 (m : zmem) : Int32 := if rkind m < 0 then 0 else 1
def rcg2 (m : zmem) (kd : Int32) : Int32 := if ¬ rhas kd (rkind m) = 0 then 0 else 1
def rcw1 (m : zmem) : zmem := rwant m (rcg1 m) 1 (m 57 14)
def rcw2 (m : zmem) (kd : Int32) : zmem := rwant (rcw1 m) (rcg2 m kd) 3 (rcw1 m 57 14)
/-- behind the word: a clause of custom -/
def rct (t : Nat) (kd : Int32) (m : zmem) : Nat × Int32 × zmem :=
  if rwantr m (rcg1 m) 1 (m 57 14) = 0 then (t, kd, rend (rcw1 m))
  else if rwantr (rcw1 m) (rcg2 m kd) 3 (rcw1 m 57 14) = 0 then (t, kd, rend (rcw2 m kd))
  else (t + 1, kd ||| (1 <<< (rkind m &&& 31)), rend (mset (rcw2 m kd) 67 t (rkind m)))
def rcusP : Nat → Nat × Int32 × zmem → Nat → zmem → Prop
  | 0, _, _, _ => False
  | n + 1, s, tR, mR => if ¬ s.2.2 57 16 = 0 then tR = s.1 ∧ mR = s.2.2 else if rhr s.2.2 < 0 then tR = s.1 ∧ mR = rat s.2.2 (rblk s.2.2) else rcusP n (rct s.1 s.2.1 (rtw (rat s.2.2 (rblk s.2.2)))) tR mR
def rcc (k : Nat) (m : zmem) : zmem := mset m 65 k (m 67 k)
def rk_custom (tR : Nat) (mR : zmem) : Int32 × zmem := if rpar0 mR 57 16 ≤ 0 then (Int32.ofNat tR, mset (sfold rcc tR 0 (rpar0 mR)) 57 10 (Int32.ofNat tR)) else (-10 - rpar0 mR 57 16, rpar0 mR)
def pc4 (K : Nat) : Nat := K % 2 + K / 2 % 2 + K / 4 % 2 + K / 8 % 2
def KI (t : Nat) (kd : Int32) : Prop := ∃ K, K < 16 ∧ kd = Int32.ofNat K ∧ t = pc4 K
theorem KI.le {t : Nat} {kd : Int32} (h : KI t kd) : t ≤ 4 := by
  obtain ⟨K, h1, h2, h3⟩ := h
  unfold pc4 at h3
  omega
theorem rkind_or (m : zmem) : rkind m = -1 ∨ ∃ c, c < 4 ∧ rkind m = Int32.ofNat c := by
  unfold rkind
  by_cases h1 : rws m 4 114 97 110 107 0 = 0
  · by_cases h2 : rws m 5 119 97 105 116 115 = 0
    · by_cases h3 : rws m 5 103 105 102 116 115 = 0
      · by_cases h4 : rws m 3 107 105 110 0 0 = 0
        · exact Or.inl (by simp [h1, h2, h3, h4])
        · exact Or.inr ⟨3, by decide, by simp [h1, h2, h3, h4]⟩
      · exact Or.inr ⟨2, by decide, by simp [h1, h2, h3]⟩
    · exact Or.inr ⟨1, by decide, by simp [h1, h2]⟩
  · exact Or.inr ⟨0, by decide, by simp [h1]⟩
theorem KI.step {t : Nat} {kd : Int32} {c : Nat} (h : KI t kd) (hc : c < 4) (g : rhas kd (Int32.ofNat c) = 0) : KI (t + 1) (kd ||| (1 <<< (Int32.ofNat c &&& 31))) := by
  obtain ⟨K, h1, h2, h3⟩ := h
  subst h2; subst h3
  have a : ∀ c, c < 4 → ∀ K, K < 16 → rhas (Int32.ofNat K) (Int32.ofNat c) = 0 → (K + 2 ^ c < 16 ∧ Int32.ofNat K ||| (1 <<< (Int32.ofNat c &&& 31)) = Int32.ofNat (K + 2 ^ c) ∧ pc4 K + 1 = pc4 (K + 2 ^ c)) := by decide +kernel
  exact ⟨K + 2 ^ c, a c hc K h1 g⟩
theorem RT.tws {m : zmem} (h : RT m) : RT (rtw (Jvm.Pilot.CLoftGravesLaw_law_r3492_ce13c6.rat m (rblk m))) := h.here.word
theorem pr3 {P : Nat → Int32 → Prop} {Q : zmem → Prop} {x : Nat × Int32 × zmem} {t : Nat} {kd : Int32} {m' : zmem} (e : x = (t, kd, m')) (h1 : P t kd) (h2 : Q m') : P x.1 x.2.1 ∧ Q x.2.2 := by
  subst e
  exact ⟨h1, h2⟩
theorem KI.ct {t : Nat} {kd : Int32} {m : zmem} (h : KI t kd) (hT : RT m) : KI (rct t kd m).1 (rct t kd m).2.1 ∧ RT (rct t kd m).2.2 := by
  have w1 : RT (rcw1 m) := by unfold rcw1; exact hT.want
  have w2 : RT (rcw2 m kd) := by unfold rcw2; exact w1.want
  by_cases h1 : rwantr m (rcg1 m) 1 (m 57 14) = 0
  · have e : rct t kd m = (t, kd, rend (rcw1 m)) := by rw [rct, if_pos h1]
    exact pr3 (P := KI) (Q := RT) e h (RT.fin w1)
  · by_cases h2 : rwantr (rcw1 m) (rcg2 m kd) 3 (rcw1 m 57 14) = 0
    · have e : rct t kd m = (t, kd, rend (rcw2 m kd)) := by rw [rct, if_neg h1, if_pos h2]
      exact pr3 (P := KI) (Q := RT) e h (RT.fin w2)
    · have e : rct t kd m = (t + 1, kd ||| (1 <<< (rkind m &&& 31)), rend (mset (rcw2 m kd) 67 t (rkind m))) := by rw [rct, if_neg h1, if_neg h2]
      have g1 := want_good h1 (by decide)
      have g2 := want_good h2 (by decide)
      rcases rkind_or m with ek | ⟨c, hc, ek⟩
      · exact absurd (show rcg1 m = 0 by rw [rcg1, ek]; decide) g1
      · have w3 : RT (mset (rcw2 m kd) 67 t (rkind m)) := RT.cell w2 (by decide)
        refine pr3 (P := KI) (Q := RT) e ?_ (RT.fin w3)
        have q : rhas kd (rkind m) = 0 := by
          apply Classical.byContradiction
          intro q
          exact g2 (if_pos q)
        rw [ek] at q ⊢
        exact h.step hc q
theorem RT.p0 {m : zmem} {L : Nat} (hL : m 57 12 = Int32.ofNat L) (hL4 : L ≤ 400) : RT (rstart m) := by
  have e12 : rstart m 57 12 = Int32.ofNat L := by rw [← hL]; simp [rstart, mset]
  have e13 : rstart m 57 13 = Int32.ofNat 0 := by simp [rstart, mset]
  have eL : rL (rstart m) = L := by rw [rL, e12, natc (by omega)]
  have eP : rP (rstart m) = 0 := by rw [rP, e13]; rfl
  exact ⟨by rw [eL, e12], by omega, by rw [eP, e13], by omega⟩
set_option maxRecDepth 100000 in
set_option maxHeartbeats 4000000 in
theorem c7_parish {m mR : zmem} {L F : Nat} (hL : m 57 12 = Int32.ofNat L) (hL4 : L ≤ 400) (hP : rreadP F (rp0 m) mR) : Ei MX7_parish 4 [.ref 57] m ((rk_parish mR).1) ((rk_parish mR).2) := by
  refine Ei.of (by decide) (Nat.le_of_ble_eq_true rfl) ?_
  show Z _ 0 [(0, .ref 57)] _ _ _ _
  refine z_aload_n 0 dX7_parish_0 rfl rfl ?_
  refine y_V0 [] _ kX7_141 c7_start rfl rfl dX7_parish_1 rfl rfl (Nat.le_of_ble_eq_true rfl) (Nat.le_of_ble_eq_true rfl) ⟨Nat.zero_le _, Nat.zero_le _⟩ ?_
  have join55 : Z (zMB (Qi ((rk_parish mR).1) ((rk_parish mR).2)) 4 MX7_parish) 55 [(0, .ref 57)] [] (hp mR) 0 0 := by
    skip
    refine z_aload_n 0 dX7_parish_55 rfl rfl ?_
    refine z_iconst 0 dX7_parish_56 (by decide) ?_
    refine y_putI fX7_82 dX7_parish_57 rfl rfl ?_
    refine y_mem (m1 := rpar0 mR) rfl ?_
    refine z_aload_n 0 dX7_parish_60 rfl rfl ?_
    refine y_getI fX7_91 dX7_parish_61 rfl rfl ?_
    refine z_if_le 75 dX7_parish_64 (by decide) (fun c_1 => ?_) (fun c_1 => ?_)
    · refine z_aload_n 0 dX7_parish_75 rfl rfl ?_
      refine y_getR fX7_36 dX7_parish_76 rfl rfl ?_
      refine z_iconst 0 dX7_parish_79 (by decide) ?_
      refine z_aload_n 0 dX7_parish_80 rfl rfl ?_
      refine y_getR fX7_36 dX7_parish_81 rfl rfl ?_
      refine z_iconst 2 dX7_parish_84 (by decide) ?_
      refine y_ald (N := 2) dX7_parish_85 rfl rfl (by decide) ?_
      refine y_ast (N := 0) dX7_parish_86 rfl rfl (by decide) ?_
      refine y_mem (m1 := rqm0 (rpar0 mR)) rfl ?_
      refine z_aload_n 0 dX7_parish_87 rfl rfl ?_
      refine y_getR fX7_36 dX7_parish_88 rfl rfl ?_
      refine z_iconst 1 dX7_parish_91 (by decide) ?_
      refine z_aload_n 0 dX7_parish_92 rfl rfl ?_
      refine y_getR fX7_36 dX7_parish_93 rfl rfl ?_
      refine z_iconst 3 dX7_parish_96 (by decide) ?_
      refine y_ald (N := 3) dX7_parish_97 rfl rfl (by decide) ?_
      refine y_ast (N := 1) dX7_parish_98 rfl rfl (by decide) ?_
      refine y_mem (m1 := rqm1 (rqm0 (rpar0 mR))) rfl ?_
      refine z_aload_n 0 dX7_parish_99 rfl rfl ?_
      refine z_aload_n 0 dX7_parish_100 rfl rfl ?_
      refine y_getI fX7_132 dX7_parish_101 rfl rfl ?_
      refine y_putI fX7_17 dX7_parish_104 rfl rfl ?_
      refine y_mem (m1 := rf2 (rqm1 (rqm0 (rpar0 mR)))) rfl ?_
      refine z_aload_n 0 dX7_parish_107 rfl rfl ?_
      refine z_aload_n 0 dX7_parish_108 rfl rfl ?_
      refine y_getI fX7_135 dX7_parish_109 rfl rfl ?_
      refine y_putI fX7_21 dX7_parish_112 rfl rfl ?_
      refine y_mem (m1 := rpar1 (rpar0 mR)) rfl ?_
      refine z_iconst 0 dX7_parish_115 (by decide) ?_
      refine z_istore_n (lv' := [(1, .int 0), (0, .ref 57)]) dX7_parish_116 rfl (Nat.le_of_ble_eq_true rfl) rfl ?_
      have loop117 : ∀ (n : Nat) (k : Nat) (mm : zmem), k + n = 8 → rpar2 (rpar0 mR) = sfold rps n k mm → Z (zMB (Qi ((rk_parish mR).1) ((rk_parish mR).2)) 4 MX7_parish) 117 [(0, .ref 57), (1, .int (Int32.ofNat k))] [] (hp mm) 0 0 := by
        intro n
        induction n with
        | zero =>
          intro k mm hk hr
          refine z_iload_n 1 dX7_parish_117 rfl rfl ?_
          refine z_bipush 8 dX7_parish_118 (by decide) ?_
          refine z_icmp_ge 301 dX7_parish_120 (by decide) (fun c_2 => ?_) (fun c_2 => ?_)
          · refine y_mem (m1 := rpar2 (rpar0 mR)) hr.symm ?_
            refine z_aload_n 0 dX7_parish_301 rfl rfl ?_
            refine y_getR fX7_7 dX7_parish_302 rfl rfl ?_
            refine z_bipush 72 dX7_parish_305 (by decide) ?_
            refine z_iconst 0 dX7_parish_307 (by decide) ?_
            refine y_ast (N := 72) dX7_parish_308 rfl rfl (by decide) ?_
            refine y_mem (m1 := mset (rpar2 (rpar0 mR)) 58 72 0) rfl ?_
            refine z_aload_n 0 dX7_parish_309 rfl rfl ?_
            refine z_iconst 0 dX7_parish_310 (by decide) ?_
            refine y_putI fX7_147 dX7_parish_311 rfl rfl ?_
            refine y_mem (m1 := mset (mset (rpar2 (rpar0 mR)) 58 72 0) 57 30 0) rfl ?_
            refine z_aload_n 0 dX7_parish_314 rfl rfl ?_
            refine y_getR fX7_13 dX7_parish_315 rfl rfl ?_
            refine z_iconst 0 dX7_parish_318 (by decide) ?_
            refine z_iconst 0 dX7_parish_319 (by decide) ?_
            refine y_zast dX7_parish_320 rfl (by unfold vp_in; decide) ?_
            refine y_mem (m1 := mset (mset (mset (rpar2 (rpar0 mR)) 58 72 0) 57 30 0) 59 0 0) rfl ?_
            refine z_aload_n 0 dX7_parish_321 rfl rfl ?_
            refine y_getR fX7_13 dX7_parish_322 rfl rfl ?_
            refine z_iconst 1 dX7_parish_325 (by decide) ?_
            refine z_iconst 0 dX7_parish_326 (by decide) ?_
            refine y_zast dX7_parish_327 rfl (by unfold vp_in; decide) ?_
            refine y_mem (m1 := rpar3 (rpar2 (rpar0 mR))) rfl ?_
            refine z_aload_n 0 dX7_parish_328 rfl rfl ?_
            refine y_getR fX7_36 dX7_parish_329 rfl rfl ?_
            refine z_iconst 1 dX7_parish_332 (by decide) ?_
            refine y_ald (N := 1) dX7_parish_333 rfl rfl (by decide) ?_
            exact y_iret dX7_parish_334 rfl (by simp only [rk_parish, c_1, c_2, eq_self, if_true, not_true_eq_false, not_false_eq_true, if_false, reduceIte]) (by simp only [rk_parish, c_1, c_2, eq_self, if_true, not_true_eq_false, not_false_eq_true, if_false, reduceIte])
          · exact (dz rfl (b := 8) (N := 8) rfl (by omega) (by omega) c_2).elim
        | succ n ih117 =>
          intro k mm hk hr
          refine z_iload_n 1 dX7_parish_117 rfl rfl ?_
          refine z_bipush 8 dX7_parish_118 (by decide) ?_
          refine z_icmp_ge 301 dX7_parish_120 (by decide) (fun c_3 => ?_) (fun c_3 => ?_)
          · exact (ds rfl (b := 8) (N := 8) rfl (by omega) (by omega) c_3).elim
          · refine z_aload_n 0 dX7_parish_123 rfl rfl ?_
            refine y_getR fX7_24 dX7_parish_124 rfl rfl ?_
            refine z_iload_n 1 dX7_parish_127 rfl rfl ?_
            refine z_aload_n 0 dX7_parish_128 rfl rfl ?_
            refine y_getR fX7_24 dX7_parish_129 rfl rfl ?_
            refine z_bipush 8 dX7_parish_132 (by decide) ?_
            refine z_iload_n 1 dX7_parish_134 rfl rfl ?_
            refine z_iadd dX7_parish_135 ?_
            refine y_ald (N := 8 + k) dX7_parish_136 rfl (Int32.ofNat_add 8 k).symm (by omega) ?_
            refine y_ast (N := k) dX7_parish_137 rfl rfl (by omega) ?_
            refine y_mem (m1 := (rq60 k mm)) rfl ?_
            refine z_aload_n 0 dX7_parish_138 rfl rfl ?_
            refine y_getR fX7_27 dX7_parish_139 rfl rfl ?_
            refine z_iload_n 1 dX7_parish_142 rfl rfl ?_
            refine z_aload_n 0 dX7_parish_143 rfl rfl ?_
            refine y_getR fX7_27 dX7_parish_144 rfl rfl ?_
            refine z_bipush 8 dX7_parish_147 (by decide) ?_
            refine z_iload_n 1 dX7_parish_149 rfl rfl ?_
            refine z_iadd dX7_parish_150 ?_
            refine y_ald (N := 8 + k) dX7_parish_151 rfl (Int32.ofNat_add 8 k).symm (by omega) ?_
            refine y_ast (N := k) dX7_parish_152 rfl rfl (by omega) ?_
            refine y_mem (m1 := (rq61 k (rq60 k mm))) rfl ?_
            refine z_aload_n 0 dX7_parish_153 rfl rfl ?_
            refine y_getR fX7_30 dX7_parish_154 rfl rfl ?_
            refine z_iload_n 1 dX7_parish_157 rfl rfl ?_
            refine z_aload_n 0 dX7_parish_158 rfl rfl ?_
            refine y_getR fX7_30 dX7_parish_159 rfl rfl ?_
            refine z_bipush 8 dX7_parish_162 (by decide) ?_
            refine z_iload_n 1 dX7_parish_164 rfl rfl ?_
            refine z_iadd dX7_parish_165 ?_
            refine y_ald (N := 8 + k) dX7_parish_166 rfl (Int32.ofNat_add 8 k).symm (by omega) ?_
            refine y_ast (N := k) dX7_parish_167 rfl rfl (by omega) ?_
            refine y_mem (m1 := (rq62 k (rq61 k (rq60 k mm)))) rfl ?_
            refine z_aload_n 0 dX7_parish_168 rfl rfl ?_
            refine y_getR fX7_33 dX7_parish_169 rfl rfl ?_
            refine z_iload_n 1 dX7_parish_172 rfl rfl ?_
            refine z_aload_n 0 dX7_parish_173 rfl rfl ?_
            refine y_getR fX7_33 dX7_parish_174 rfl rfl ?_
            refine z_bipush 8 dX7_parish_177 (by decide) ?_
            refine z_iload_n 1 dX7_parish_179 rfl rfl ?_
            refine z_iadd dX7_parish_180 ?_
            refine y_ald (N := 8 + k) dX7_parish_181 rfl (Int32.ofNat_add 8 k).symm (by omega) ?_
            refine y_ast (N := k) dX7_parish_182 rfl rfl (by omega) ?_
            refine y_mem (m1 := (rq63 k (rq62 k (rq61 k (rq60 k mm))))) rfl ?_
            refine z_aload_n 0 dX7_parish_183 rfl rfl ?_
            refine y_getR fX7_7 dX7_parish_184 rfl rfl ?_
            refine z_iload_n 1 dX7_parish_187 rfl rfl ?_
            refine z_aload_n 0 dX7_parish_188 rfl rfl ?_
            refine y_getR fX7_24 dX7_parish_189 rfl rfl ?_
            refine z_iload_n 1 dX7_parish_192 rfl rfl ?_
            refine y_ald (N := k) dX7_parish_193 rfl rfl (by omega) ?_
            refine y_wst (X := 0) (o := 0) (d := Int32.ofNat k) dX7_parish_194 (wiD (vk (by omega))) (wb (by decide) (vk (by omega)) (by decide)) ?_
            refine y_mem (m1 := (rw0 k (rq63 k (rq62 k (rq61 k (rq60 k mm)))))) rfl ?_
            refine z_aload_n 0 dX7_parish_195 rfl rfl ?_
            refine y_getR fX7_7 dX7_parish_196 rfl rfl ?_
            refine z_bipush 8 dX7_parish_199 (by decide) ?_
            refine z_iload_n 1 dX7_parish_201 rfl rfl ?_
            refine z_iadd dX7_parish_202 ?_
            refine z_aload_n 0 dX7_parish_203 rfl rfl ?_
            refine y_getR fX7_27 dX7_parish_204 rfl rfl ?_
            refine z_iload_n 1 dX7_parish_207 rfl rfl ?_
            refine y_ald (N := k) dX7_parish_208 rfl rfl (by omega) ?_
            refine y_wst (X := 0) (o := 8) (d := Int32.ofNat k) dX7_parish_209 (wiB (vk (by omega))) (wb (by decide) (vk (by omega)) (by decide)) ?_
            refine y_mem (m1 := (rw8 k (rw0 k (rq63 k (rq62 k (rq61 k (rq60 k mm))))))) rfl ?_
            refine z_aload_n 0 dX7_parish_210 rfl rfl ?_
            refine y_getR fX7_7 dX7_parish_211 rfl rfl ?_
            refine z_bipush 16 dX7_parish_214 (by decide) ?_
            refine z_iload_n 1 dX7_parish_216 rfl rfl ?_
            refine z_iadd dX7_parish_217 ?_
            refine z_aload_n 0 dX7_parish_218 rfl rfl ?_
            refine y_getR fX7_30 dX7_parish_219 rfl rfl ?_
            refine z_iload_n 1 dX7_parish_222 rfl rfl ?_
            refine y_ald (N := k) dX7_parish_223 rfl rfl (by omega) ?_
            refine y_wst (X := 0) (o := 16) (d := Int32.ofNat k) dX7_parish_224 (wiB (vk (by omega))) (wb (by decide) (vk (by omega)) (by decide)) ?_
            refine y_mem (m1 := (rw16 k (rw8 k (rw0 k (rq63 k (rq62 k (rq61 k (rq60 k mm)))))))) rfl ?_
            refine z_aload_n 0 dX7_parish_225 rfl rfl ?_
            refine y_getR fX7_7 dX7_parish_226 rfl rfl ?_
            refine z_bipush 24 dX7_parish_229 (by decide) ?_
            refine z_iload_n 1 dX7_parish_231 rfl rfl ?_
            refine z_iadd dX7_parish_232 ?_
            refine z_iconst 0 dX7_parish_233 (by decide) ?_
            refine y_wst (X := 0) (o := 24) (d := Int32.ofNat k) dX7_parish_234 (wiB (vk (by omega))) (wb (by decide) (vk (by omega)) (by decide)) ?_
            refine y_mem (m1 := (rwc 24 k 0 (rw16 k (rw8 k (rw0 k (rq63 k (rq62 k (rq61 k (rq60 k mm))))))))) rfl ?_
            refine z_aload_n 0 dX7_parish_235 rfl rfl ?_
            refine y_getR fX7_7 dX7_parish_236 rfl rfl ?_
            refine z_bipush 32 dX7_parish_239 (by decide) ?_
            refine z_iload_n 1 dX7_parish_241 rfl rfl ?_
            refine z_iadd dX7_parish_242 ?_
            refine z_bipush 9 dX7_parish_243 (by decide) ?_
            refine y_wst (X := 0) (o := 32) (d := Int32.ofNat k) dX7_parish_245 (wiB (vk (by omega))) (wb (by decide) (vk (by omega)) (by decide)) ?_
            refine y_mem (m1 := (rwc 32 k 9 (rwc 24 k 0 (rw16 k (rw8 k (rw0 k (rq63 k (rq62 k (rq61 k (rq60 k mm)))))))))) rfl ?_
            refine z_aload_n 0 dX7_parish_246 rfl rfl ?_
            refine y_getR fX7_7 dX7_parish_247 rfl rfl ?_
            refine z_bipush 40 dX7_parish_250 (by decide) ?_
            refine z_iload_n 1 dX7_parish_252 rfl rfl ?_
            refine z_iadd dX7_parish_253 ?_
            refine z_iconst (-1) dX7_parish_254 (by decide) ?_
            refine y_wst (X := 0) (o := 40) (d := Int32.ofNat k) dX7_parish_255 (wiB (vk (by omega))) (wb (by decide) (vk (by omega)) (by decide)) ?_
            refine y_mem (m1 := (rwc 40 k (-1) (rwc 32 k 9 (rwc 24 k 0 (rw16 k (rw8 k (rw0 k (rq63 k (rq62 k (rq61 k (rq60 k mm))))))))))) rfl ?_
            refine z_aload_n 0 dX7_parish_256 rfl rfl ?_
            refine y_getR fX7_7 dX7_parish_257 rfl rfl ?_
            refine z_bipush 48 dX7_parish_260 (by decide) ?_
            refine z_iload_n 1 dX7_parish_262 rfl rfl ?_
            refine z_iadd dX7_parish_263 ?_
            refine z_iconst 0 dX7_parish_264 (by decide) ?_
            refine y_wst (X := 0) (o := 48) (d := Int32.ofNat k) dX7_parish_265 (wiB (vk (by omega))) (wb (by decide) (vk (by omega)) (by decide)) ?_
            refine z_aload_n 0 dX7_parish_266 rfl rfl ?_
            refine y_mem (m1 := (rwc 48 k 0 (rwc 40 k (-1) (rwc 32 k 9 (rwc 24 k 0 (rw16 k (rw8 k (rw0 k (rq63 k (rq62 k (rq61 k (rq60 k mm)))))))))))) rfl ?_
            refine y_getR fX7_7 dX7_parish_267 rfl rfl ?_
            refine z_bipush 56 dX7_parish_270 (by decide) ?_
            refine z_iload_n 1 dX7_parish_272 rfl rfl ?_
            refine z_iadd dX7_parish_273 ?_
            refine z_iload_n 1 dX7_parish_274 rfl rfl ?_
            refine y_wst (X := 0) (o := 56) (d := Int32.ofNat k) dX7_parish_275 (wiB (vk (by omega))) (wb (by decide) (vk (by omega)) (by decide)) ?_
            refine y_mem (m1 := (rwc 56 k (Int32.ofNat k) (rwc 48 k 0 (rwc 40 k (-1) (rwc 32 k 9 (rwc 24 k 0 (rw16 k (rw8 k (rw0 k (rq63 k (rq62 k (rq61 k (rq60 k mm))))))))))))) rfl ?_
            refine z_aload_n 0 dX7_parish_276 rfl rfl ?_
            refine y_getR fX7_7 dX7_parish_277 rfl rfl ?_
            refine z_bipush 64 dX7_parish_280 (by decide) ?_
            refine z_iload_n 1 dX7_parish_282 rfl rfl ?_
            refine z_iadd dX7_parish_283 ?_
            refine z_iconst 1 dX7_parish_284 (by decide) ?_
            refine z_aload_n 0 dX7_parish_285 rfl rfl ?_
            refine y_getR fX7_36 dX7_parish_286 rfl rfl ?_
            refine z_iconst 1 dX7_parish_289 (by decide) ?_
            refine y_ald (N := 1) dX7_parish_290 rfl rfl (by decide) ?_
            refine z_ishl dX7_parish_291 ?_
            refine z_iconst 1 dX7_parish_292 (by decide) ?_
            refine z_isub dX7_parish_293 ?_
            refine y_wst (X := 0) (o := 64) (d := Int32.ofNat k) dX7_parish_294 (wiB (vk (by omega))) (wb (by decide) (vk (by omega)) (by decide)) ?_
            refine y_mem (m1 := (rw64 k (rwc 56 k (Int32.ofNat k) (rwc 48 k 0 (rwc 40 k (-1) (rwc 32 k 9 (rwc 24 k 0 (rw16 k (rw8 k (rw0 k (rq63 k (rq62 k (rq61 k (rq60 k mm)))))))))))))) rfl ?_
            obtain ⟨v_4, e_4⟩ : ∃ y : Int32, y = (Int32.ofNat k) + 1 := ⟨_, rfl⟩
            refine z_iinc (lv' := [(1, .int v_4), (0, .ref 57)]) 1 v_4 dX7_parish_295 rfl (by rw [e_4]; rfl) (Nat.le_of_ble_eq_true rfl) rfl ?_
            refine z_goto 117 dX7_parish_298 (by decide) ?_
            obtain rfl : v_4 = Int32.ofNat (k + 1) := e_4.trans (nat_succ k)
            refine z_sub [1,0] rfl ?_
            exact ih117 (k + 1) _ (by omega) hr
      refine z_sub [1,0] rfl ?_
      exact loop117 (8) 0 _ (by omega) rfl
    · refine z_bipush (-10) dX7_parish_67 (by decide) ?_
      refine z_aload_n 0 dX7_parish_69 rfl rfl ?_
      refine y_getI fX7_91 dX7_parish_70 rfl rfl ?_
      refine z_isub dX7_parish_73 ?_
      exact y_iret dX7_parish_74 rfl (by simp only [rk_parish, c_1, eq_self, if_true, not_true_eq_false, not_false_eq_true, if_false, reduceIte]) (by simp only [rk_parish, c_1, eq_self, if_true, not_true_eq_false, not_false_eq_true, if_false, reduceIte])
  refine z_aload_n 0 dX7_parish_4 rfl rfl ?_
  refine y_getR fX7_36 dX7_parish_5 rfl rfl ?_
  refine z_iconst 2 dX7_parish_8 (by decide) ?_
  refine z_iconst 0 dX7_parish_9 (by decide) ?_
  refine y_ast (N := 2) dX7_parish_10 rfl rfl (by decide) ?_
  refine z_aload_n 0 dX7_parish_11 rfl rfl ?_
  refine y_getR fX7_36 dX7_parish_12 rfl rfl ?_
  refine z_iconst 3 dX7_parish_15 (by decide) ?_
  refine z_iconst 0 dX7_parish_16 (by decide) ?_
  refine y_ast (N := 3) dX7_parish_17 rfl rfl (by decide) ?_
  refine z_aload_n 0 dX7_parish_18 rfl rfl ?_
  refine z_iconst 0 dX7_parish_19 (by decide) ?_
  refine y_putZ (by decide) fX7_124 dX7_parish_20 rfl rfl ?_
  refine z_aload_n 0 dX7_parish_23 rfl rfl ?_
  refine z_bipush 6 dX7_parish_24 (by decide) ?_
  refine y_putI fX7_132 dX7_parish_26 rfl rfl ?_
  refine z_aload_n 0 dX7_parish_29 rfl rfl ?_
  refine z_iconst 2 dX7_parish_30 (by decide) ?_
  refine y_putI fX7_135 dX7_parish_31 rfl rfl ?_
  have loop34 : ∀ (n : Nat) (mm : zmem), rreadP n mm mR → RM mm → Z (zMB (Qi ((rk_parish mR).1) ((rk_parish mR).2)) 4 MX7_parish) 34 [(0, .ref 57)] [] (hp mm) 0 0 := by
    intro n
    induction n with
    | zero =>
      intro mm hP hM
      exact hP.elim
    | succ n ih34 =>
      intro mm hP hM
      refine z_aload_n 0 dX7_parish_34 rfl rfl ?_
      refine y_getI fX7_91 dX7_parish_35 rfl rfl ?_
      refine z_if_ne 55 dX7_parish_38 (by decide) (fun c_5 => ?_) (fun c_5 => ?_)
      · refine y_mem (m1 := mR) (by rw [rreadP, if_pos c_5] at hP; exact hP.symm) ?_
        refine z_sub [0] rfl ?_
        exact join55 
      · refine z_aload_n 0 dX7_parish_41 rfl rfl ?_
        refine y_Vi [] _ kX7_94 (c7_here hM.1) rfl rfl dX7_parish_42 rfl rfl (Nat.le_of_ble_eq_true rfl) (Nat.le_of_ble_eq_true rfl) ⟨Nat.zero_le _, Nat.zero_le _⟩ ?_
        refine z_if_lt 55 dX7_parish_45 (by decide) (fun c_6 => ?_) (fun c_6 => ?_)
        · refine y_mem (m1 := mR) (by rw [rreadP, if_neg (fun q => q c_5), if_pos c_6] at hP; exact hP.symm) ?_
          refine z_sub [0] rfl ?_
          exact join55 
        · refine z_aload_n 0 dX7_parish_48 rfl rfl ?_
          refine y_V0 [] _ kX7_144 (c7_clause hM.here) rfl rfl dX7_parish_49 rfl rfl (Nat.le_of_ble_eq_true rfl) (Nat.le_of_ble_eq_true rfl) ⟨Nat.zero_le _, Nat.zero_le _⟩ ?_
          refine z_goto 34 dX7_parish_52 (by decide) ?_
          refine z_sub [0] rfl ?_
          exact ih34 _ (by rw [rreadP, if_neg (fun q => q c_5), if_neg c_6] at hP; exact hP) hM.here.cl
  refine z_sub [0] rfl ?_
  exact loop34 F _ hP (RM.p0 hL hL4)
