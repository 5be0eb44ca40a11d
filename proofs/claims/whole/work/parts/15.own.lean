/-! the class's own methods: what is known between two calls -/
def CI (m : zmem) (D Y C L W : Nat) : Prop := m 7 1 = Int32.ofNat D ∧ D ≤ 7 ∧ m 7 0 = Int32.ofNat Y ∧ Y ≤ 8 ∧ m 3 1 = Int32.ofNat C ∧ C ≤ 4 ∧ m 1 1 = Int32.ofNat L ∧ L ≤ 400 ∧ m 47 2 = Int32.ofNat W ∧ W ≤ 20
def K5 (m m' : zmem) : Prop := m' 7 0 = m 7 0 ∧ m' 7 1 = m 7 1 ∧ m' 3 1 = m 3 1 ∧ m' 1 1 = m 1 1 ∧ m' 47 2 = m 47 2
theorem K5.rf (m : zmem) : K5 m m := ⟨rfl, rfl, rfl, rfl, rfl⟩
theorem K5.tr {a b c : zmem} (h1 : K5 a b) (h2 : K5 b c) : K5 a c := ⟨h2.1.trans h1.1, h2.2.1.trans h1.2.1, h2.2.2.1.trans h1.2.2.1, h2.2.2.2.1.trans h1.2.2.2.1, h2.2.2.2.2.trans h1.2.2.2.2⟩
theorem CI.keep {m m' : zmem} {D Y C L W : Nat} (h : CI m D Y C L W) (k : K5 m m') : CI m' D Y C L W := ⟨k.2.1.trans h.1, h.2.1, k.1.trans h.2.2.1, h.2.2.2.1, k.2.2.1.trans h.2.2.2.2.1, h.2.2.2.2.2.1, k.2.2.2.1.trans h.2.2.2.2.2.2.1, h.2.2.2.2.2.2.2.1, k.2.2.2.2.trans h.2.2.2.2.2.2.2.2.1, h.2.2.2.2.2.2.2.2.2⟩
theorem K5.aput {m : zmem} {q n : Nat} {i v : Int32} (h1 : q ≠ 7) (h2 : q ≠ 3) (h3 : q ≠ 1) (h4 : q ≠ 47) : K5 m (aput m q n i v) := by
  refine ⟨?_, ?_, ?_, ?_, ?_⟩ <;> rw [aput_ne (Ne.symm (by assumption))]
theorem K5.mset {m : zmem} {a j : Nat} {v : Int32} (h1 : ¬ (7 = a ∧ 0 = j)) (h2 : ¬ (7 = a ∧ 1 = j)) (h3 : ¬ (3 = a ∧ 1 = j)) (h4 : ¬ (1 = a ∧ 1 = j)) (h5 : ¬ (47 = a ∧ 2 = j)) : K5 m (mset m a j v) := ⟨mset_ne v h1, mset_ne v h2, mset_ne v h3, mset_ne v h4, mset_ne v h5⟩
theorem K5.fold {f : Nat → zmem → zmem} (hf : ∀ k m, K5 m (f k m)) : ∀ n k m, K5 m (sfold f n k m) := by
  intro n
  induction n with
  | zero => intro k m; exact K5.rf m
  | succ n ih => intro k m; exact (hf k m).tr (ih (k + 1) (f k m))
theorem K5.day (m : zmem) (D Y : Nat) (h : Int32) : K5 m (sday m 7 D Y h) := by
  have h1 : ∀ k m, K5 m (spd1 7 h k m) := by
    intro k m; unfold spd1; split
    · exact K5.rf m
    · exact K5.aput (by decide) (by decide) (by decide) (by decide)
  refine (K5.fold (f := spd2 7 (staken m 7 D) h) (fun k m => ?_) Y 0 m).tr (K5.fold (fun k m => ?_) D 0 _)
  · unfold spd2; split
    · exact h1 k m
    · split
      · exact h1 k m
      · exact (h1 k m).tr (K5.aput (by decide) (by decide) (by decide) (by decide))
  · unfold spw; split
    · exact K5.rf m
    · exact K5.aput (by decide) (by decide) (by decide) (by decide)
theorem K5.night (m : zmem) (D : Nat) (r : Int32) : K5 m (snight m 7 D r) := by
  refine K5.fold (fun k m => ?_) D 0 m
  unfold spn; split
  · exact K5.rf m
  · split
    · exact K5.mset (by decide) (by decide) (by decide) (by decide) (by decide)
    · exact (K5.mset (a := 7) (j := 15) (by decide) (by decide) (by decide) (by decide) (by decide)).tr (K5.aput (by decide) (by decide) (by decide) (by decide))
theorem K5.lay (m : zmem) (d i : Int32) : K5 m (slay m 7 d i) := ((K5.aput (q := 7 + 1) (by decide) (by decide) (by decide) (by decide)).tr (K5.aput (q := 7 + 7) (by decide) (by decide) (by decide) (by decide))).tr (K5.mset (a := 7) (j := 14) (by decide) (by decide) (by decide) (by decide) (by decide))
theorem rng {n lo hi : Int32} (h0 : ¬ lo < 0) (h1 : ¬ n < lo) (h2 : ¬ hi < n) : n = Int32.ofNat n.toNatClampNeg := by
  have a0 : (0 : Int) ≤ lo.toInt := by
    have := Int32.le_iff_toInt_le.mp (Int32.not_lt.mp h0)
    simpa using this
  have a1 := Int32.le_iff_toInt_le.mp (Int32.not_lt.mp h1)
  apply Int32.toInt_inj.mp
  have e : n.toNatClampNeg = n.toInt.toNat := rfl
  have hb := Int32.toInt_lt n
  rw [nat_toInt (by rw [e]; omega), e]
  omega
theorem rng_le {n hi : Int32} (h2 : ¬ hi < n) : n.toNatClampNeg ≤ hi.toNatClampNeg := by
  have a1 := Int32.le_iff_toInt_le.mp (Int32.not_lt.mp h2)
  show n.toInt.toNat ≤ hi.toInt.toNat
  omega
def sk_told (m : zmem) (D : Nat) (x : Int32) : Int32 := if x = 0 then m 7 0 else if x = 1 then m 7 1 else if x = 2 then m 1 1 else if x = 3 then m 7 2 else if x = 4 then m 7 3 else if x = 5 then swait m 7 D else if x = 6 then slaid m 7 D else if x = 7 then m 7 14 else if x = 8 then m 47 2 else if x = 9 then m 3 1 else -1000000002
def sk_yard (m : zmem) (D : Nat) (i x : Int32) : Int32 := if sin (m 7 0) i = 0 then -1000000001 else if x = 0 then aat 8 (m (7 + 1)) i else if x = 1 then swho m 7 D i else -1000000002
def sk_dead (m : zmem) (d x : Int32) : Int32 := if sin (m 7 1) d = 0 then -1000000001 else if x = 0 then aat 7 (m (7 + 2)) d else if x = 1 then aat 7 (m (7 + 3)) d else if x = 2 then aat 7 (m (7 + 4)) d else if x = 3 then aat 7 (m (7 + 5)) d else if x = 4 then aat 7 (m (7 + 6)) d else if x = 5 then aat 7 (m (7 + 7)) d else if x = 6 then (if shas (m 7 13) d = 0 then 0 else 1) else if x = 7 then aat 7 (m (7 + 8)) d else if x = 8 then aat 7 (m (7 + 9)) d else -1000000002
def sk_ordc (m : zmem) (D C : Nat) (i : Int32) (k : Nat) : Bool := decide (¬ shas (swait m 7 D) (Int32.ofNat k) = 0 ∧ splace m 7 3 C D (swait m 7 D) (Int32.ofNat k) = i)
def sk_order (m : zmem) (D C : Nat) (i : Int32) : Int32 := sfind (sk_ordc m D C i) 7 0
def sk_letter (m : zmem) (d v : Int32) : Int32 × zmem := if sin (m 7 1) d = 0 then (-1000000001, m) else if v < 0 then (-1000000002, m) else if v ≤ 99 then (aat 7 (m (7 + 2)) d, aput m (7 + 2) 7 d v) else (-1000000002, m)
def sk_giftn (m : zmem) (d n : Int32) : Int32 := smin 9999 (aat 7 (m (7 + 5)) d + n)
def sk_gift (m : zmem) (D : Nat) (d n : Int32) : Int32 × zmem := if sin (m 7 1) d = 0 then (-1000000001, m) else if n < 1 then (-1000000002, m) else if n ≤ 999 then (if shas (swait m 7 D) d = 0 then (-1000000003, m) else (sk_giftn m d n, aput m (7 + 5) 7 d (sk_giftn m d n))) else (-1000000002, m)
def sk_knock (m : zmem) (D C : Nat) (d : Int32) : Int32 × zmem := if sin (m 7 1) d = 0 then (-1000000001, m) else if shas (swait m 7 D) d = 0 then (-1000000003, m) else (splace m 7 3 C D (swait m 7 D) d, mset m 7 13 (m 7 13 ||| sbit d))
def sk_day (m : zmem) (D Y : Nat) (h : Int32) : Int32 × zmem := if h < -9 then (-1000000002, m) else if h ≤ 9 then (ssoft (sday m 7 D Y h) 7 Y, sday m 7 D Y h) else (-1000000002, m)
def sk_nights (m : zmem) (D : Nat) (n r : Int32) : zmem := sfold (fun _ m => snight m 7 D r) n.toNatClampNeg 0 m
def sk_rats (m : zmem) (D : Nat) (n r : Int32) : Int32 × zmem := if n < 1 then (-1000000002, m) else if 99 < n then (-1000000002, m) else if r < 0 then (-1000000002, m) else if r ≤ 10 then (sbless (sk_nights m D n r) 7 D, sk_nights m D n r) else (-1000000002, m)
def sk_lay (m : zmem) (D : Nat) (d i : Int32) : Int32 × zmem := if sin (m 7 1) d = 0 then (-1000000001, m) else if sin (m 7 0) i = 0 then (-1000000001, m) else if shas (swait m 7 D) d = 0 then (-1000000003, m) else if ¬ shas (staken m 7 D) i = 0 then (-1000000003, m) else (slayw m 7 i, slay m 7 d i)
def sk_offended (m : zmem) (D C : Nat) (d : Int32) : Int32 × zmem := if sin (m 7 1) d = 0 then (-1000000001, m) else if shas (slaid m 7 D) d = 0 then (-1000000003, m) else (swoff (spbegin C m) d, spbegin C m)
def sk_when (m : zmem) (D Y : Nat) (n h : Int32) : Int32 := if n < 1 then -1000000002 else if 8 < n then -1000000002 else if h < 1 then -1000000002 else if h ≤ 9 then suntil m 7 D Y n h else -1000000002
def sk_label (m : zmem) (c n : Int32) : Int32 × zmem := if sin (m 7 1) c = 0 then (-1000000001, m) else if sin (m 7 1) n = 0 then (-1000000001, m) else (aat 7 (m (7 + 8)) c, aput m (7 + 8) 7 c n)
def smkc (m : zmem) (s : Int32) : Int32 := s &&& ((sbit (m 7 1) - 1) ^^^ -1)
def sk_mark (m : zmem) (c s : Int32) : Int32 × zmem := if sin (m 7 1) c = 0 then (-1000000001, m) else if smkc m s = 0 then (aat 7 (m (7 + 9)) c, aput m (7 + 9) 7 c s) else (-1000000001, m)
def sk_write (m : zmem) (d i : Int32) : Int32 × zmem := if sin (m 7 1) d = 0 then (-1000000001, m) else if sin (m 7 0) i = 0 then (-1000000001, m) else if m 47 2 < 20 then (sbook m d i 47 2, sbook m d i) else (-1000000004, m)
def sk_seed (m : zmem) (v : Int32) : Int32 × zmem := if 0 ≤ v then (m 7 15, mset m 7 15 v) else (-1000000002, m)
def sk_keep (m : zmem) (i : Int32) : Int32 × zmem := if i < 0 then (-1000000001, m) else if i ≤ 1 then (if ¬ i = 0 then (1, mset (scopyP 7 37 m) 0 8 1) else (1, mset (scopyP 7 27 m) 0 7 1)) else (-1000000001, m)
def sk_goBack (m : zmem) (i : Int32) : Int32 × zmem := if i < 0 then (-1000000001, m) else if i ≤ 1 then (if ¬ i = 0 then (if ¬ m 0 8 = 0 then (1, scopyP 37 7 m) else (-1000000003, m)) else (if ¬ m 0 7 = 0 then (1, scopyP 27 7 m) else (-1000000003, m))) else (-1000000001, m)
set_option maxRecDepth 100000 in
set_option maxHeartbeats 4000000 in
theorem c6_fault {m : zmem} {D Y C L W : Nat} (hI : CI m D Y C L W)  : Ei MX6_fault 1 [.ref 0] m (m 1 4) (m) := by
  obtain ⟨hD, hD7, hY, hY8, hC, hC4, hL, hL4, hW, hW20⟩ := id hI
  refine Ei.of (by decide) (Nat.le_of_ble_eq_true rfl) ?_
  show Z _ 0 [(0, .ref 0)] _ _ _ _
  refine z_aload_n 0 dX6_fault_0 rfl rfl ?_
  refine y_getR fX6_10 dX6_fault_1 rfl rfl ?_
  refine y_getI fX6_111 dX6_fault_4 rfl rfl ?_
  exact y_iret dX6_fault_7 rfl rfl rfl
set_option maxRecDepth 100000 in
set_option maxHeartbeats 4000000 in
theorem c6_told {m : zmem} {D Y C L W : Nat} (hI : CI m D Y C L W) {x : Int32} : Ei MX6_told 5 [.ref 0, .int x] m (sk_told m D x) (m) := by
  obtain ⟨hD, hD7, hY, hY8, hC, hC4, hL, hL4, hW, hW20⟩ := id hI
  refine Ei.of (by decide) (Nat.le_of_ble_eq_true rfl) ?_
  show Z _ 0 [(0, .ref 0), (1, .int x)] _ _ _ _
  refine z_iload_n 1 dX6_told_0 rfl rfl ?_
  by_cases c_1 : x = 0
  · refine z_itop c_1 ?_
    refine z_tableIn 56 dX6_told_1 (by decide) (by decide) rfl (by decide) ?_
    refine z_aload_n 0 dX6_told_56 rfl rfl ?_
    refine y_getR fX6_29 dX6_told_57 rfl rfl ?_
    refine y_getI fX6_114 dX6_told_60 isPar7.1 rfl ?_
    exact y_iret dX6_told_63 rfl (by simp [sk_told, c_1]) rfl
  · skip
    by_cases c_2 : x = 1
    · refine z_itop c_2 ?_
      refine z_tableIn 64 dX6_told_1 (by decide) (by decide) rfl (by decide) ?_
      refine z_aload_n 0 dX6_told_64 rfl rfl ?_
      refine y_getR fX6_29 dX6_told_65 rfl rfl ?_
      refine y_getI fX6_103 dX6_told_68 isPar7.1 rfl ?_
      exact y_iret dX6_told_71 rfl (by simp [sk_told, c_1, c_2]) rfl
    · skip
      by_cases c_3 : x = 2
      · refine z_itop c_3 ?_
        refine z_tableIn 72 dX6_told_1 (by decide) (by decide) rfl (by decide) ?_
        refine z_aload_n 0 dX6_told_72 rfl rfl ?_
        refine y_getR fX6_10 dX6_told_73 rfl rfl ?_
        refine y_getI fX6_78 dX6_told_76 rfl rfl ?_
        exact y_iret dX6_told_79 rfl (by simp [sk_told, c_1, c_2, c_3]) rfl
      · skip
        by_cases c_4 : x = 3
        · refine z_itop c_4 ?_
          refine z_tableIn 80 dX6_told_1 (by decide) (by decide) rfl (by decide) ?_
          refine z_aload_n 0 dX6_told_80 rfl rfl ?_
          refine y_getR fX6_29 dX6_told_81 rfl rfl ?_
          refine y_getI fX6_117 dX6_told_84 isPar7.1 rfl ?_
          exact y_iret dX6_told_87 rfl (by simp [sk_told, c_1, c_2, c_3, c_4]) rfl
        · skip
          by_cases c_5 : x = 4
          · refine z_itop c_5 ?_
            refine z_tableIn 88 dX6_told_1 (by decide) (by decide) rfl (by decide) ?_
            refine z_aload_n 0 dX6_told_88 rfl rfl ?_
            refine y_getR fX6_29 dX6_told_89 rfl rfl ?_
            refine y_getI fX6_120 dX6_told_92 isPar7.1 rfl ?_
            exact y_iret dX6_told_95 rfl (by simp [sk_told, c_1, c_2, c_3, c_4, c_5]) rfl
          · skip
            by_cases c_6 : x = 5
            · refine z_itop c_6 ?_
              refine z_tableIn 96 dX6_told_1 (by decide) (by decide) rfl (by decide) ?_
              refine z_aload_n 0 dX6_told_96 rfl rfl ?_
              refine y_getR fX6_29 dX6_told_97 rfl rfl ?_
              refine y_Vi [] _ kX6_123 (c_waiting isPar7 hD hD7) rfl isPar7.1 dX6_told_100 rfl rfl (Nat.le_of_ble_eq_true rfl) (Nat.le_of_ble_eq_true rfl) ⟨Nat.zero_le _, Nat.zero_le _⟩ ?_
              exact y_iret dX6_told_103 rfl (by simp [sk_told, c_1, c_2, c_3, c_4, c_5, c_6]) rfl
            · skip
              by_cases c_7 : x = 6
              · refine z_itop c_7 ?_
                refine z_tableIn 104 dX6_told_1 (by decide) (by decide) rfl (by decide) ?_
                refine z_aload_n 0 dX6_told_104 rfl rfl ?_
                refine y_getR fX6_29 dX6_told_105 rfl rfl ?_
                refine y_Vi [] _ kX6_127 (c_laid isPar7 hD hD7) rfl isPar7.1 dX6_told_108 rfl rfl (Nat.le_of_ble_eq_true rfl) (Nat.le_of_ble_eq_true rfl) ⟨Nat.zero_le _, Nat.zero_le _⟩ ?_
                exact y_iret dX6_told_111 rfl (by simp [sk_told, c_1, c_2, c_3, c_4, c_5, c_6, c_7]) rfl
              · skip
                by_cases c_8 : x = 7
                · refine z_itop c_8 ?_
                  refine z_tableIn 112 dX6_told_1 (by decide) (by decide) rfl (by decide) ?_
                  refine z_aload_n 0 dX6_told_112 rfl rfl ?_
                  refine y_getR fX6_29 dX6_told_113 rfl rfl ?_
                  refine y_getI fX6_130 dX6_told_116 isPar7.1 rfl ?_
                  exact y_iret dX6_told_119 rfl (by simp [sk_told, c_1, c_2, c_3, c_4, c_5, c_6, c_7, c_8]) rfl
                · skip
                  by_cases c_9 : x = 8
                  · refine z_itop c_9 ?_
                    refine z_tableIn 120 dX6_told_1 (by decide) (by decide) rfl (by decide) ?_
                    refine z_aload_n 0 dX6_told_120 rfl rfl ?_
                    refine y_getR fX6_52 dX6_told_121 rfl rfl ?_
                    refine y_getI fX6_100 dX6_told_124 rfl rfl ?_
                    exact y_iret dX6_told_127 rfl (by simp [sk_told, c_1, c_2, c_3, c_4, c_5, c_6, c_7, c_8, c_9]) rfl
                  · skip
                    by_cases c_10 : x = 9
                    · refine z_itop c_10 ?_
                      refine z_tableIn 128 dX6_told_1 (by decide) (by decide) rfl (by decide) ?_
                      refine z_aload_n 0 dX6_told_128 rfl rfl ?_
                      refine y_getR fX6_19 dX6_told_129 rfl rfl ?_
                      refine y_getI fX6_110 dX6_told_132 isCus3.1 rfl ?_
                      exact y_iret dX6_told_135 rfl (by simp [sk_told, c_1, c_2, c_3, c_4, c_5, c_6, c_7, c_8, c_9, c_10]) rfl
                    · skip
                      refine z_tableOut 136 dX6_told_1 (by have h0 : ¬ x.toInt = 0 := fun h => c_1 (Int32.toInt_inj.mp (h.trans rfl)); have h1 : ¬ x.toInt = 1 := fun h => c_2 (Int32.toInt_inj.mp (h.trans rfl)); have h2 : ¬ x.toInt = 2 := fun h => c_3 (Int32.toInt_inj.mp (h.trans rfl)); have h3 : ¬ x.toInt = 3 := fun h => c_4 (Int32.toInt_inj.mp (h.trans rfl)); have h4 : ¬ x.toInt = 4 := fun h => c_5 (Int32.toInt_inj.mp (h.trans rfl)); have h5 : ¬ x.toInt = 5 := fun h => c_6 (Int32.toInt_inj.mp (h.trans rfl)); have h6 : ¬ x.toInt = 6 := fun h => c_7 (Int32.toInt_inj.mp (h.trans rfl)); have h7 : ¬ x.toInt = 7 := fun h => c_8 (Int32.toInt_inj.mp (h.trans rfl)); have h8 : ¬ x.toInt = 8 := fun h => c_9 (Int32.toInt_inj.mp (h.trans rfl)); have h9 : ¬ x.toInt = 9 := fun h => c_10 (Int32.toInt_inj.mp (h.trans rfl)); omega) (by decide) ?_
                      refine z_ldc (-1000000002) dX6_told_136 nX6_77 ?_
                      exact y_iret dX6_told_138 rfl (by simp [sk_told, c_1, c_2, c_3, c_4, c_5, c_6, c_7, c_8, c_9, c_10]) rfl
set_option maxRecDepth 100000 in
set_option maxHeartbeats 4000000 in
theorem c6_yard {m : zmem} {D Y C L W : Nat} (hI : CI m D Y C L W) {i x : Int32} : Ei MX6_yard 5 [.ref 0, .int i, .int x] m (sk_yard m D i x) (m) := by
  obtain ⟨hD, hD7, hY, hY8, hC, hC4, hL, hL4, hW, hW20⟩ := id hI
  refine Ei.of (by decide) (Nat.le_of_ble_eq_true rfl) ?_
  show Z _ 0 [(0, .ref 0), (1, .int i), (2, .int x)] _ _ _ _
  refine z_aload_n 0 dX6_yard_0 rfl rfl ?_
  refine y_getR fX6_29 dX6_yard_1 rfl rfl ?_
  refine z_iload_n 1 dX6_yard_4 rfl rfl ?_
  refine y_Vi [_] _ kX6_133 (c_hasYard isPar7) rfl isPar7.1 dX6_yard_5 rfl rfl (Nat.le_of_ble_eq_true rfl) (Nat.le_of_ble_eq_true rfl) ⟨Nat.zero_le _, Nat.zero_le _⟩ ?_
  refine z_if_ne 14 dX6_yard_8 (by decide) (fun c_1 => ?_) (fun c_1 => ?_)
  · refine z_iload_n 2 dX6_yard_14 rfl rfl ?_
    by_cases c_2 : x = 0
    · refine z_itop c_2 ?_
      refine z_lookup (off := 25) 40 dX6_yard_15 (by decide) (by decide) (by decide) ?_
      refine z_aload_n 0 dX6_yard_40 rfl rfl ?_
      refine y_getR fX6_29 dX6_yard_41 rfl rfl ?_
      refine y_getR fX6_138 dX6_yard_44 isPar7.1 rfl ?_
      refine z_iload_n 1 dX6_yard_47 rfl rfl ?_
      refine y_Si [_, _] _ kX6_142 (c_at (q := (7 + 1)) (n := 8) isPar7.2.1 (by decide)) dX6_yard_48 rfl rfl (Nat.le_of_ble_eq_true rfl) (Nat.le_of_ble_eq_true rfl) ⟨Nat.zero_le _, Nat.zero_le _⟩ ?_
      exact y_iret dX6_yard_51 rfl (by simp [sk_yard, c_1, c_2]) rfl
    · skip
      by_cases c_3 : x = 1
      · refine z_itop c_3 ?_
        refine z_lookup (off := 37) 52 dX6_yard_15 (by decide) (by decide) (by decide) ?_
        refine z_aload_n 0 dX6_yard_52 rfl rfl ?_
        refine y_getR fX6_29 dX6_yard_53 rfl rfl ?_
        refine z_iload_n 1 dX6_yard_56 rfl rfl ?_
        refine y_Vi [_] _ kX6_146 (c_who isPar7 hD hD7) rfl isPar7.1 dX6_yard_57 rfl rfl (Nat.le_of_ble_eq_true rfl) (Nat.le_of_ble_eq_true rfl) ⟨Nat.zero_le _, Nat.zero_le _⟩ ?_
        exact y_iret dX6_yard_60 rfl (by simp [sk_yard, c_1, c_2, c_3]) rfl
      · skip
        refine z_lookup (off := 46) 61 dX6_yard_15 (by decide) ((lv_osw c_2 rfl).trans ((lv_osw c_3 rfl).trans (rfl))) (by decide) ?_
        refine z_ldc (-1000000002) dX6_yard_61 nX6_77 ?_
        exact y_iret dX6_yard_63 rfl (by simp [sk_yard, c_1, c_2, c_3]) rfl
  · refine z_ldc (-1000000001) dX6_yard_11 nX6_137 ?_
    exact y_iret dX6_yard_13 rfl (by simp [sk_yard, c_1]) rfl
set_option maxRecDepth 100000 in
set_option maxHeartbeats 4000000 in
theorem c6_dead {m : zmem} {D Y C L W : Nat} (hI : CI m D Y C L W) {d x : Int32} : Ei MX6_dead 5 [.ref 0, .int d, .int x] m (sk_dead m d x) (m) := by
  obtain ⟨hD, hD7, hY, hY8, hC, hC4, hL, hL4, hW, hW20⟩ := id hI
  refine Ei.of (by decide) (Nat.le_of_ble_eq_true rfl) ?_
  show Z _ 0 [(0, .ref 0), (1, .int d), (2, .int x)] _ _ _ _
  refine z_aload_n 0 dX6_dead_0 rfl rfl ?_
  refine y_getR fX6_29 dX6_dead_1 rfl rfl ?_
  refine z_iload_n 1 dX6_dead_4 rfl rfl ?_
  refine y_Vi [_] _ kX6_150 (c_hasDead isPar7) rfl isPar7.1 dX6_dead_5 rfl rfl (Nat.le_of_ble_eq_true rfl) (Nat.le_of_ble_eq_true rfl) ⟨Nat.zero_le _, Nat.zero_le _⟩ ?_
  refine z_if_ne 14 dX6_dead_8 (by decide) (fun c_1 => ?_) (fun c_1 => ?_)
  · refine z_iload_n 2 dX6_dead_14 rfl rfl ?_
    by_cases c_2 : x = 0
    · refine z_itop c_2 ?_
      refine z_tableIn 64 dX6_dead_15 (by decide) (by decide) rfl (by decide) ?_
      refine z_aload_n 0 dX6_dead_64 rfl rfl ?_
      refine y_getR fX6_29 dX6_dead_65 rfl rfl ?_
      refine y_getR fX6_153 dX6_dead_68 isPar7.1 rfl ?_
      refine z_iload_n 1 dX6_dead_71 rfl rfl ?_
      refine y_Si [_, _] _ kX6_142 (c_at (q := (7 + 2)) (n := 7) isPar7.2.2.1 (by decide)) dX6_dead_72 rfl rfl (Nat.le_of_ble_eq_true rfl) (Nat.le_of_ble_eq_true rfl) ⟨Nat.zero_le _, Nat.zero_le _⟩ ?_
      exact y_iret dX6_dead_75 rfl (by simp [sk_dead, c_1, c_2]) rfl
    · skip
      by_cases c_3 : x = 1
      · refine z_itop c_3 ?_
        refine z_tableIn 76 dX6_dead_15 (by decide) (by decide) rfl (by decide) ?_
        refine z_aload_n 0 dX6_dead_76 rfl rfl ?_
        refine y_getR fX6_29 dX6_dead_77 rfl rfl ?_
        refine y_getR fX6_156 dX6_dead_80 isPar7.1 rfl ?_
        refine z_iload_n 1 dX6_dead_83 rfl rfl ?_
        refine y_Si [_, _] _ kX6_142 (c_at (q := (7 + 3)) (n := 7) isPar7.2.2.2.1 (by decide)) dX6_dead_84 rfl rfl (Nat.le_of_ble_eq_true rfl) (Nat.le_of_ble_eq_true rfl) ⟨Nat.zero_le _, Nat.zero_le _⟩ ?_
        exact y_iret dX6_dead_87 rfl (by simp [sk_dead, c_1, c_2, c_3]) rfl
      · skip
        by_cases c_4 : x = 2
        · refine z_itop c_4 ?_
          refine z_tableIn 88 dX6_dead_15 (by decide) (by decide) rfl (by decide) ?_
          refine z_aload_n 0 dX6_dead_88 rfl rfl ?_
          refine y_getR fX6_29 dX6_dead_89 rfl rfl ?_
          refine y_getR fX6_159 dX6_dead_92 isPar7.1 rfl ?_
          refine z_iload_n 1 dX6_dead_95 rfl rfl ?_
          refine y_Si [_, _] _ kX6_142 (c_at (q := (7 + 4)) (n := 7) isPar7.2.2.2.2.1 (by decide)) dX6_dead_96 rfl rfl (Nat.le_of_ble_eq_true rfl) (Nat.le_of_ble_eq_true rfl) ⟨Nat.zero_le _, Nat.zero_le _⟩ ?_
          exact y_iret dX6_dead_99 rfl (by simp [sk_dead, c_1, c_2, c_3, c_4]) rfl
        · skip
          by_cases c_5 : x = 3
          · refine z_itop c_5 ?_
            refine z_tableIn 100 dX6_dead_15 (by decide) (by decide) rfl (by decide) ?_
            refine z_aload_n 0 dX6_dead_100 rfl rfl ?_
            refine y_getR fX6_29 dX6_dead_101 rfl rfl ?_
            refine y_getR fX6_162 dX6_dead_104 isPar7.1 rfl ?_
            refine z_iload_n 1 dX6_dead_107 rfl rfl ?_
            refine y_Si [_, _] _ kX6_142 (c_at (q := (7 + 5)) (n := 7) isPar7.2.2.2.2.2.1 (by decide)) dX6_dead_108 rfl rfl (Nat.le_of_ble_eq_true rfl) (Nat.le_of_ble_eq_true rfl) ⟨Nat.zero_le _, Nat.zero_le _⟩ ?_
            exact y_iret dX6_dead_111 rfl (by simp [sk_dead, c_1, c_2, c_3, c_4, c_5]) rfl
          · skip
            by_cases c_6 : x = 4
            · refine z_itop c_6 ?_
              refine z_tableIn 112 dX6_dead_15 (by decide) (by decide) rfl (by decide) ?_
              refine z_aload_n 0 dX6_dead_112 rfl rfl ?_
              refine y_getR fX6_29 dX6_dead_113 rfl rfl ?_
              refine y_getR fX6_165 dX6_dead_116 isPar7.1 rfl ?_
              refine z_iload_n 1 dX6_dead_119 rfl rfl ?_
              refine y_Si [_, _] _ kX6_142 (c_at (q := (7 + 6)) (n := 7) isPar7.2.2.2.2.2.2.1 (by decide)) dX6_dead_120 rfl rfl (Nat.le_of_ble_eq_true rfl) (Nat.le_of_ble_eq_true rfl) ⟨Nat.zero_le _, Nat.zero_le _⟩ ?_
              exact y_iret dX6_dead_123 rfl (by simp [sk_dead, c_1, c_2, c_3, c_4, c_5, c_6]) rfl
            · skip
              by_cases c_7 : x = 5
              · refine z_itop c_7 ?_
                refine z_tableIn 124 dX6_dead_15 (by decide) (by decide) rfl (by decide) ?_
                refine z_aload_n 0 dX6_dead_124 rfl rfl ?_
                refine y_getR fX6_29 dX6_dead_125 rfl rfl ?_
                refine y_getR fX6_168 dX6_dead_128 isPar7.1 rfl ?_
                refine z_iload_n 1 dX6_dead_131 rfl rfl ?_
                refine y_Si [_, _] _ kX6_142 (c_at (q := (7 + 7)) (n := 7) isPar7.2.2.2.2.2.2.2.1 (by decide)) dX6_dead_132 rfl rfl (Nat.le_of_ble_eq_true rfl) (Nat.le_of_ble_eq_true rfl) ⟨Nat.zero_le _, Nat.zero_le _⟩ ?_
                exact y_iret dX6_dead_135 rfl (by simp [sk_dead, c_1, c_2, c_3, c_4, c_5, c_6, c_7]) rfl
              · skip
                by_cases c_8 : x = 6
                · refine z_itop c_8 ?_
                  refine z_tableIn 136 dX6_dead_15 (by decide) (by decide) rfl (by decide) ?_
                  refine z_aload_n 0 dX6_dead_136 rfl rfl ?_
                  refine y_getR fX6_29 dX6_dead_137 rfl rfl ?_
                  refine y_getI fX6_171 dX6_dead_140 isPar7.1 rfl ?_
                  refine z_iload_n 1 dX6_dead_143 rfl rfl ?_
                  refine y_Si [_, _] _ kX6_174 c_has dX6_dead_144 rfl rfl (Nat.le_of_ble_eq_true rfl) (Nat.le_of_ble_eq_true rfl) ⟨Nat.zero_le _, Nat.zero_le _⟩ ?_
                  refine z_if_eq 154 dX6_dead_147 (by decide) (fun c_9 => ?_) (fun c_9 => ?_)
                  · refine z_iconst 0 dX6_dead_154 (by decide) ?_
                    exact y_iret dX6_dead_155 rfl (by simp [sk_dead, c_1, c_2, c_3, c_4, c_5, c_6, c_7, c_8, c_9]) rfl
                  · refine z_iconst 1 dX6_dead_150 (by decide) ?_
                    refine z_goto 155 dX6_dead_151 (by decide) ?_
                    exact y_iret dX6_dead_155 rfl (by simp [sk_dead, c_1, c_2, c_3, c_4, c_5, c_6, c_7, c_8, c_9]) rfl
                · skip
                  by_cases c_10 : x = 7
                  · refine z_itop c_10 ?_
                    refine z_tableIn 156 dX6_dead_15 (by decide) (by decide) rfl (by decide) ?_
                    refine z_aload_n 0 dX6_dead_156 rfl rfl ?_
                    refine y_getR fX6_29 dX6_dead_157 rfl rfl ?_
                    refine y_getR fX6_178 dX6_dead_160 isPar7.1 rfl ?_
                    refine z_iload_n 1 dX6_dead_163 rfl rfl ?_
                    refine y_Si [_, _] _ kX6_142 (c_at (q := (7 + 8)) (n := 7) isPar7.2.2.2.2.2.2.2.2.1 (by decide)) dX6_dead_164 rfl rfl (Nat.le_of_ble_eq_true rfl) (Nat.le_of_ble_eq_true rfl) ⟨Nat.zero_le _, Nat.zero_le _⟩ ?_
                    exact y_iret dX6_dead_167 rfl (by simp [sk_dead, c_1, c_2, c_3, c_4, c_5, c_6, c_7, c_8, c_10]) rfl
                  · skip
                    by_cases c_11 : x = 8
                    · refine z_itop c_11 ?_
                      refine z_tableIn 168 dX6_dead_15 (by decide) (by decide) rfl (by decide) ?_
                      refine z_aload_n 0 dX6_dead_168 rfl rfl ?_
                      refine y_getR fX6_29 dX6_dead_169 rfl rfl ?_
                      refine y_getR fX6_181 dX6_dead_172 isPar7.1 rfl ?_
                      refine z_iload_n 1 dX6_dead_175 rfl rfl ?_
                      refine y_Si [_, _] _ kX6_142 (c_at (q := (7 + 9)) (n := 7) isPar7.2.2.2.2.2.2.2.2.2 (by decide)) dX6_dead_176 rfl rfl (Nat.le_of_ble_eq_true rfl) (Nat.le_of_ble_eq_true rfl) ⟨Nat.zero_le _, Nat.zero_le _⟩ ?_
                      exact y_iret dX6_dead_179 rfl (by simp [sk_dead, c_1, c_2, c_3, c_4, c_5, c_6, c_7, c_8, c_10, c_11]) rfl
                    · skip
                      refine z_tableOut 180 dX6_dead_15 (by have h0 : ¬ x.toInt = 0 := fun h => c_2 (Int32.toInt_inj.mp (h.trans rfl)); have h1 : ¬ x.toInt = 1 := fun h => c_3 (Int32.toInt_inj.mp (h.trans rfl)); have h2 : ¬ x.toInt = 2 := fun h => c_4 (Int32.toInt_inj.mp (h.trans rfl)); have h3 : ¬ x.toInt = 3 := fun h => c_5 (Int32.toInt_inj.mp (h.trans rfl)); have h4 : ¬ x.toInt = 4 := fun h => c_6 (Int32.toInt_inj.mp (h.trans rfl)); have h5 : ¬ x.toInt = 5 := fun h => c_7 (Int32.toInt_inj.mp (h.trans rfl)); have h6 : ¬ x.toInt = 6 := fun h => c_8 (Int32.toInt_inj.mp (h.trans rfl)); have h7 : ¬ x.toInt = 7 := fun h => c_10 (Int32.toInt_inj.mp (h.trans rfl)); have h8 : ¬ x.toInt = 8 := fun h => c_11 (Int32.toInt_inj.mp (h.trans rfl)); omega) (by decide) ?_
                      refine z_ldc (-1000000002) dX6_dead_180 nX6_77 ?_
                      exact y_iret dX6_dead_182 rfl (by simp [sk_dead, c_1, c_2, c_3, c_4, c_5, c_6, c_7, c_8, c_10, c_11]) rfl
  · refine z_ldc (-1000000001) dX6_dead_11 nX6_137 ?_
    exact y_iret dX6_dead_13 rfl (by simp [sk_dead, c_1]) rfl
set_option maxRecDepth 100000 in
set_option maxHeartbeats 4000000 in
theorem c6_order {m : zmem} {D Y C L W : Nat} (hI : CI m D Y C L W) {i : Int32} : Ei MX6_order 6 [.ref 0, .int i] m (sk_order m D C i) (m) := by
  obtain ⟨hD, hD7, hY, hY8, hC, hC4, hL, hL4, hW, hW20⟩ := id hI
  refine Ei.of (by decide) (Nat.le_of_ble_eq_true rfl) ?_
  show Z _ 0 [(0, .ref 0), (1, .int i)] _ _ _ _
  refine z_aload_n 0 dX6_order_0 rfl rfl ?_
  refine y_getR fX6_29 dX6_order_1 rfl rfl ?_
  refine y_Vi [] _ kX6_123 (c_waiting isPar7 hD hD7) rfl isPar7.1 dX6_order_4 rfl rfl (Nat.le_of_ble_eq_true rfl) (Nat.le_of_ble_eq_true rfl) ⟨Nat.zero_le _, Nat.zero_le _⟩ ?_
  refine z_itop (y := (swait m 7 D)) rfl ?_
  refine z_istore_n (lv' := [(2, .int (swait m 7 D)), (0, .ref 0), (1, .int i)]) dX6_order_7 rfl (Nat.le_of_ble_eq_true rfl) rfl ?_
  refine z_iconst 0 dX6_order_8 (by decide) ?_
  refine z_istore_n (lv' := [(3, .int 0), (2, .int (swait m 7 D)), (0, .ref 0), (1, .int i)]) dX6_order_9 rfl (Nat.le_of_ble_eq_true rfl) rfl ?_
  have loop10 : ∀ (n : Nat) (k : Nat) (lf : Int32), k + n = 7 → lf = swait m 7 D → sk_order m D C i = sfind (sk_ordc m D C i) n k → Z (zMB (Qi (sk_order m D C i) (m)) 6 MX6_order) 10 [(0, .ref 0), (1, .int i), (2, .int lf), (3, .int (Int32.ofNat k))] [] (hp m) 0 0 := by
    intro n
    induction n with
    | zero =>
      intro k lf hk hlf hr
      refine z_iload_n 3 dX6_order_10 rfl rfl ?_
      refine z_bipush 7 dX6_order_11 (by decide) ?_
      refine z_icmp_ge 49 dX6_order_13 (by decide) (fun c_1 => ?_) (fun c_1 => ?_)
      · refine z_iconst (-1) dX6_order_49 (by decide) ?_
        exact y_iret dX6_order_50 rfl (by first | exact hr.symm | (rw [hr]; simp [sfind, sk_ordc, ← hlf, c_1])) rfl
      · exact (dz rfl (b := 7) (N := 7) rfl (by omega) (by omega) c_1).elim
    | succ n ih10 =>
      intro k lf hk hlf hr
      refine z_iload_n 3 dX6_order_10 rfl rfl ?_
      refine z_bipush 7 dX6_order_11 (by decide) ?_
      refine z_icmp_ge 49 dX6_order_13 (by decide) (fun c_2 => ?_) (fun c_2 => ?_)
      · exact (ds rfl (b := 7) (N := 7) rfl (by omega) (by omega) c_2).elim
      · refine z_iload_n 2 dX6_order_16 rfl rfl ?_
        refine z_iload_n 3 dX6_order_17 rfl rfl ?_
        refine y_Si [_, _] _ kX6_174 c_has dX6_order_18 rfl rfl (Nat.le_of_ble_eq_true rfl) (Nat.le_of_ble_eq_true rfl) ⟨Nat.zero_le _, Nat.zero_le _⟩ ?_
        refine z_if_eq 43 dX6_order_21 (by decide) (fun c_3 => ?_) (fun c_3 => ?_)
        · obtain ⟨v_4, e_4⟩ : ∃ y : Int32, y = (Int32.ofNat k) + 1 := ⟨_, rfl⟩
          refine z_iinc (lv' := [(3, .int v_4), (0, .ref 0), (1, .int i), (2, .int lf)]) 3 v_4 dX6_order_43 rfl (by rw [e_4]; rfl) (Nat.le_of_ble_eq_true rfl) rfl ?_
          refine z_goto 10 dX6_order_46 (by decide) ?_
          obtain rfl : v_4 = Int32.ofNat (k + 1) := e_4.trans (nat_succ k)
          refine z_sub [1,2,3,0] rfl ?_
          exact ih10 (k + 1) _ (by omega) hlf (hr.trans (by simp [sfind, sk_ordc, ← hlf, c_2, c_3]))
        · refine z_aload_n 0 dX6_order_24 rfl rfl ?_
          refine y_getR fX6_29 dX6_order_25 rfl rfl ?_
          refine z_aload_n 0 dX6_order_28 rfl rfl ?_
          refine y_getR fX6_19 dX6_order_29 rfl rfl ?_
          refine z_iload_n 2 dX6_order_32 rfl rfl ?_
          refine z_iload_n 3 dX6_order_33 rfl rfl ?_
          refine y_Vi [_, _, _] _ kX6_184 (c_place isPar7 isCus3 hC hC4 hD hD7) rfl isPar7.1 dX6_order_34 rfl rfl (Nat.le_of_ble_eq_true rfl) (Nat.le_of_ble_eq_true rfl) ⟨Nat.zero_le _, Nat.zero_le _⟩ ?_
          refine z_iload_n 1 dX6_order_37 rfl rfl ?_
          refine z_icmp_ne 43 dX6_order_38 (by decide) (fun c_5 => ?_) (fun c_5 => ?_)
          · obtain ⟨v_6, e_6⟩ : ∃ y : Int32, y = (Int32.ofNat k) + 1 := ⟨_, rfl⟩
            refine z_iinc (lv' := [(3, .int v_6), (0, .ref 0), (1, .int i), (2, .int lf)]) 3 v_6 dX6_order_43 rfl (by rw [e_6]; rfl) (Nat.le_of_ble_eq_true rfl) rfl ?_
            refine z_goto 10 dX6_order_46 (by decide) ?_
            obtain rfl : v_6 = Int32.ofNat (k + 1) := e_6.trans (nat_succ k)
            refine z_sub [1,2,3,0] rfl ?_
            exact ih10 (k + 1) _ (by omega) hlf (hr.trans (by simp [sfind, sk_ordc, ← hlf, c_2, c_3, c_5]))
          · refine z_iload_n 3 dX6_order_41 rfl rfl ?_
            exact y_iret dX6_order_42 rfl (by first | exact hr.symm | (rw [hr]; simp [sfind, sk_ordc, ← hlf, c_2, c_3, c_5])) rfl
  refine z_sub [2,3,1,0] rfl ?_
  exact loop10 (7) 0 _ (by omega) rfl rfl
set_option maxRecDepth 100000 in
set_option maxHeartbeats 4000000 in
theorem c6_letter {m : zmem} {D Y C L W : Nat} (hI : CI m D Y C L W) {d v : Int32} : Ei MX6_letter 5 [.ref 0, .int d, .int v] m ((sk_letter m d v).1) ((sk_letter m d v).2) := by
  obtain ⟨hD, hD7, hY, hY8, hC, hC4, hL, hL4, hW, hW20⟩ := id hI
  refine Ei.of (by decide) (Nat.le_of_ble_eq_true rfl) ?_
  show Z _ 0 [(0, .ref 0), (1, .int d), (2, .int v)] _ _ _ _
  refine z_aload_n 0 dX6_letter_0 rfl rfl ?_
  refine y_getR fX6_29 dX6_letter_1 rfl rfl ?_
  refine z_iload_n 1 dX6_letter_4 rfl rfl ?_
  refine y_Vi [_] _ kX6_150 (c_hasDead isPar7) rfl isPar7.1 dX6_letter_5 rfl rfl (Nat.le_of_ble_eq_true rfl) (Nat.le_of_ble_eq_true rfl) ⟨Nat.zero_le _, Nat.zero_le _⟩ ?_
  refine z_if_ne 14 dX6_letter_8 (by decide) (fun c_1 => ?_) (fun c_1 => ?_)
  · refine z_iload_n 2 dX6_letter_14 rfl rfl ?_
    refine z_if_lt 24 dX6_letter_15 (by decide) (fun c_2 => ?_) (fun c_2 => ?_)
    · refine z_ldc (-1000000002) dX6_letter_24 nX6_77 ?_
      exact y_iret dX6_letter_26 rfl (by simp [sk_letter, c_1, c_2]) (by simp [sk_letter, c_1, c_2])
    · refine z_iload_n 2 dX6_letter_18 rfl rfl ?_
      refine z_bipush 99 dX6_letter_19 (by decide) ?_
      refine z_icmp_le 27 dX6_letter_21 (by decide) (fun c_3 => ?_) (fun c_3 => ?_)
      · refine z_aload_n 0 dX6_letter_27 rfl rfl ?_
        refine y_getR fX6_29 dX6_letter_28 rfl rfl ?_
        refine y_getR fX6_153 dX6_letter_31 isPar7.1 rfl ?_
        refine z_iload_n 1 dX6_letter_34 rfl rfl ?_
        refine y_Si [_, _] _ kX6_142 (c_at (q := (7 + 2)) (n := 7) isPar7.2.2.1 (by decide)) dX6_letter_35 rfl rfl (Nat.le_of_ble_eq_true rfl) (Nat.le_of_ble_eq_true rfl) ⟨Nat.zero_le _, Nat.zero_le _⟩ ?_
        refine z_topi (fun v_4 e_4 => ?_)
        refine z_istore_n (lv' := [(3, .int v_4), (0, .ref 0), (1, .int d), (2, .int v)]) dX6_letter_38 rfl (Nat.le_of_ble_eq_true rfl) rfl ?_
        refine z_aload_n 1 dX6_letter_39 rfl rfl ?_
        refine y_getR fX6_29 dX6_letter_40 rfl rfl ?_
        refine y_getR fX6_153 dX6_letter_43 isPar7.1 rfl ?_
        refine z_iload_n 2 dX6_letter_46 rfl rfl ?_
        refine z_iload_n 3 dX6_letter_47 rfl rfl ?_
        refine y_S0 [_, _, _] _ kX6_188 (c_put (q := (7 + 2)) (n := 7) isPar7.2.2.1 (by decide)) dX6_letter_48 rfl rfl (Nat.le_of_ble_eq_true rfl) (Nat.le_of_ble_eq_true rfl) ⟨Nat.zero_le _, Nat.zero_le _⟩ ?_
        refine z_iload_n 0 dX6_letter_51 rfl rfl ?_
        exact y_iret dX6_letter_52 rfl (by simp [sk_letter, c_1, c_2, c_3, e_4]) (by simp [sk_letter, c_1, c_2, c_3, e_4])
      · refine z_ldc (-1000000002) dX6_letter_24 nX6_77 ?_
        exact y_iret dX6_letter_26 rfl (by simp [sk_letter, c_1, c_2, c_3]) (by simp [sk_letter, c_1, c_2, c_3])
  · refine z_ldc (-1000000001) dX6_letter_11 nX6_137 ?_
    exact y_iret dX6_letter_13 rfl (by simp [sk_letter, c_1]) (by simp [sk_letter, c_1])
set_option maxRecDepth 100000 in
set_option maxHeartbeats 4000000 in
theorem c6_gift {m : zmem} {D Y C L W : Nat} (hI : CI m D Y C L W) {d n : Int32} : Ei MX6_gift 5 [.ref 0, .int d, .int n] m ((sk_gift m D d n).1) ((sk_gift m D d n).2) := by
  obtain ⟨hD, hD7, hY, hY8, hC, hC4, hL, hL4, hW, hW20⟩ := id hI
  refine Ei.of (by decide) (Nat.le_of_ble_eq_true rfl) ?_
  show Z _ 0 [(0, .ref 0), (1, .int d), (2, .int n)] _ _ _ _
  refine z_aload_n 0 dX6_gift_0 rfl rfl ?_
  refine y_getR fX6_29 dX6_gift_1 rfl rfl ?_
  refine z_iload_n 1 dX6_gift_4 rfl rfl ?_
  refine y_Vi [_] _ kX6_150 (c_hasDead isPar7) rfl isPar7.1 dX6_gift_5 rfl rfl (Nat.le_of_ble_eq_true rfl) (Nat.le_of_ble_eq_true rfl) ⟨Nat.zero_le _, Nat.zero_le _⟩ ?_
  refine z_if_ne 14 dX6_gift_8 (by decide) (fun c_1 => ?_) (fun c_1 => ?_)
  · refine z_iload_n 2 dX6_gift_14 rfl rfl ?_
    refine z_iconst 1 dX6_gift_15 (by decide) ?_
    refine z_icmp_lt 26 dX6_gift_16 (by decide) (fun c_2 => ?_) (fun c_2 => ?_)
    · refine z_ldc (-1000000002) dX6_gift_26 nX6_77 ?_
      exact y_iret dX6_gift_28 rfl (by simp [sk_gift, sk_giftn, smin, c_1, c_2]) (by simp [sk_gift, sk_giftn, smin, c_1, c_2])
    · refine z_iload_n 2 dX6_gift_19 rfl rfl ?_
      refine z_sipush 999 dX6_gift_20 (by decide) ?_
      refine z_icmp_le 29 dX6_gift_23 (by decide) (fun c_3 => ?_) (fun c_3 => ?_)
      · refine z_aload_n 0 dX6_gift_29 rfl rfl ?_
        refine y_getR fX6_29 dX6_gift_30 rfl rfl ?_
        refine y_Vi [] _ kX6_123 (c_waiting isPar7 hD hD7) rfl isPar7.1 dX6_gift_33 rfl rfl (Nat.le_of_ble_eq_true rfl) (Nat.le_of_ble_eq_true rfl) ⟨Nat.zero_le _, Nat.zero_le _⟩ ?_
        refine z_iload_n 1 dX6_gift_36 rfl rfl ?_
        refine y_Si [_, _] _ kX6_174 c_has dX6_gift_37 rfl rfl (Nat.le_of_ble_eq_true rfl) (Nat.le_of_ble_eq_true rfl) ⟨Nat.zero_le _, Nat.zero_le _⟩ ?_
        refine z_if_ne 46 dX6_gift_40 (by decide) (fun c_4 => ?_) (fun c_4 => ?_)
        · refine z_sipush 9999 dX6_gift_46 (by decide) ?_
          refine z_aload_n 0 dX6_gift_49 rfl rfl ?_
          refine y_getR fX6_29 dX6_gift_50 rfl rfl ?_
          refine y_getR fX6_162 dX6_gift_53 isPar7.1 rfl ?_
          refine z_iload_n 1 dX6_gift_56 rfl rfl ?_
          refine y_Si [_, _] _ kX6_142 (c_at (q := (7 + 5)) (n := 7) isPar7.2.2.2.2.2.1 (by decide)) dX6_gift_57 rfl rfl (Nat.le_of_ble_eq_true rfl) (Nat.le_of_ble_eq_true rfl) ⟨Nat.zero_le _, Nat.zero_le _⟩ ?_
          refine z_iload_n 2 dX6_gift_60 rfl rfl ?_
          refine z_iadd dX6_gift_61 ?_
          refine z_mmin lX6_193 zh_min zh_mi zh_minc dX6_gift_62 (Nat.le_of_ble_eq_true rfl) (Nat.le_of_ble_eq_true rfl) (Nat.zero_le _) (Nat.zero_le _) ?_
          refine z_topi (fun v_5 e_5 => ?_)
          refine z_istore_n (lv' := [(3, .int v_5), (0, .ref 0), (1, .int d), (2, .int n)]) dX6_gift_65 rfl (Nat.le_of_ble_eq_true rfl) rfl ?_
          refine z_aload_n 1 dX6_gift_66 rfl rfl ?_
          refine y_getR fX6_29 dX6_gift_67 rfl rfl ?_
          refine y_getR fX6_162 dX6_gift_70 isPar7.1 rfl ?_
          refine z_iload_n 2 dX6_gift_73 rfl rfl ?_
          refine z_iload_n 0 dX6_gift_74 rfl rfl ?_
          refine y_S0 [_, _, _] _ kX6_188 (c_put (q := (7 + 5)) (n := 7) isPar7.2.2.2.2.2.1 (by decide)) dX6_gift_75 rfl rfl (Nat.le_of_ble_eq_true rfl) (Nat.le_of_ble_eq_true rfl) ⟨Nat.zero_le _, Nat.zero_le _⟩ ?_
          refine z_iload_n 0 dX6_gift_78 rfl rfl ?_
          exact y_iret dX6_gift_79 rfl (by simp [sk_gift, sk_giftn, smin, c_1, c_2, c_3, c_4, e_5]) (by simp [sk_gift, sk_giftn, smin, c_1, c_2, c_3, c_4, e_5])
        · refine z_ldc (-1000000003) dX6_gift_43 nX6_192 ?_
          exact y_iret dX6_gift_45 rfl (by simp [sk_gift, sk_giftn, smin, c_1, c_2, c_3, c_4]) (by simp [sk_gift, sk_giftn, smin, c_1, c_2, c_3, c_4])
      · refine z_ldc (-1000000002) dX6_gift_26 nX6_77 ?_
        exact y_iret dX6_gift_28 rfl (by simp [sk_gift, sk_giftn, smin, c_1, c_2, c_3]) (by simp [sk_gift, sk_giftn, smin, c_1, c_2, c_3])
  · refine z_ldc (-1000000001) dX6_gift_11 nX6_137 ?_
    exact y_iret dX6_gift_13 rfl (by simp [sk_gift, sk_giftn, smin, c_1]) (by simp [sk_gift, sk_giftn, smin, c_1])
set_option maxRecDepth 100000 in
set_option maxHeartbeats 4000000 in
theorem c6_knock {m : zmem} {D Y C L W : Nat} (hI : CI m D Y C L W) {d : Int32} : Ei MX6_knock 6 [.ref 0, .int d] m ((sk_knock m D C d).1) ((sk_knock m D C d).2) := by
  obtain ⟨hD, hD7, hY, hY8, hC, hC4, hL, hL4, hW, hW20⟩ := id hI
  refine Ei.of (by decide) (Nat.le_of_ble_eq_true rfl) ?_
  show Z _ 0 [(0, .ref 0), (1, .int d)] _ _ _ _
  refine z_aload_n 0 dX6_knock_0 rfl rfl ?_
  refine y_getR fX6_29 dX6_knock_1 rfl rfl ?_
  refine z_iload_n 1 dX6_knock_4 rfl rfl ?_
  refine y_Vi [_] _ kX6_150 (c_hasDead isPar7) rfl isPar7.1 dX6_knock_5 rfl rfl (Nat.le_of_ble_eq_true rfl) (Nat.le_of_ble_eq_true rfl) ⟨Nat.zero_le _, Nat.zero_le _⟩ ?_
  refine z_if_ne 14 dX6_knock_8 (by decide) (fun c_1 => ?_) (fun c_1 => ?_)
  · refine z_aload_n 0 dX6_knock_14 rfl rfl ?_
    refine y_getR fX6_29 dX6_knock_15 rfl rfl ?_
    refine y_Vi [] _ kX6_123 (c_waiting isPar7 hD hD7) rfl isPar7.1 dX6_knock_18 rfl rfl (Nat.le_of_ble_eq_true rfl) (Nat.le_of_ble_eq_true rfl) ⟨Nat.zero_le _, Nat.zero_le _⟩ ?_
    refine z_itop (y := (swait m 7 D)) rfl ?_
    refine z_istore_n (lv' := [(2, .int (swait m 7 D)), (0, .ref 0), (1, .int d)]) dX6_knock_21 rfl (Nat.le_of_ble_eq_true rfl) rfl ?_
    refine z_iload_n 0 dX6_knock_22 rfl rfl ?_
    refine z_iload_n 2 dX6_knock_23 rfl rfl ?_
    refine y_Si [_, _] _ kX6_174 c_has dX6_knock_24 rfl rfl (Nat.le_of_ble_eq_true rfl) (Nat.le_of_ble_eq_true rfl) ⟨Nat.zero_le _, Nat.zero_le _⟩ ?_
    refine z_if_ne 33 dX6_knock_27 (by decide) (fun c_2 => ?_) (fun c_2 => ?_)
    · refine z_aload_n 1 dX6_knock_33 rfl rfl ?_
      refine y_getR fX6_29 dX6_knock_34 rfl rfl ?_
      refine z_aload_n 1 dX6_knock_37 rfl rfl ?_
      refine y_getR fX6_19 dX6_knock_38 rfl rfl ?_
      refine z_iload_n 0 dX6_knock_41 rfl rfl ?_
      refine z_iload_n 2 dX6_knock_42 rfl rfl ?_
      refine y_Vi [_, _, _] _ kX6_184 (c_place isPar7 isCus3 hC hC4 hD hD7) rfl isPar7.1 dX6_knock_43 rfl rfl (Nat.le_of_ble_eq_true rfl) (Nat.le_of_ble_eq_true rfl) ⟨Nat.zero_le _, Nat.zero_le _⟩ ?_
      refine z_topi (fun v_3 e_3 => ?_)
      refine z_istore_n (lv' := [(3, .int v_3), (2, .int (swait m 7 D)), (0, .ref 0), (1, .int d)]) dX6_knock_46 rfl (Nat.le_of_ble_eq_true rfl) rfl ?_
      refine z_aload_n 2 dX6_knock_47 rfl rfl ?_
      refine y_getR fX6_29 dX6_knock_48 rfl rfl ?_
      refine z_dup dX6_knock_51 rfl ?_
      refine y_getI fX6_171 dX6_knock_52 isPar7.1 rfl ?_
      refine z_iload_n 3 dX6_knock_55 rfl rfl ?_
      refine y_Si [_] _ kX6_199 c_bit dX6_knock_56 rfl rfl (Nat.le_of_ble_eq_true rfl) (Nat.le_of_ble_eq_true rfl) ⟨Nat.zero_le _, Nat.zero_le _⟩ ?_
      refine z_ior dX6_knock_59 ?_
      refine y_putI fX6_171 dX6_knock_60 isPar7.1 rfl ?_
      refine z_iload_n 0 dX6_knock_63 rfl rfl ?_
      exact y_iret dX6_knock_64 rfl (by simp [sk_knock, c_1, c_2, e_3]) (by simp [sk_knock, c_1, c_2, e_3])
    · refine z_ldc (-1000000003) dX6_knock_30 nX6_192 ?_
      exact y_iret dX6_knock_32 rfl (by simp [sk_knock, c_1, c_2]) (by simp [sk_knock, c_1, c_2])
  · refine z_ldc (-1000000001) dX6_knock_11 nX6_137 ?_
    exact y_iret dX6_knock_13 rfl (by simp [sk_knock, c_1]) (by simp [sk_knock, c_1])
set_option maxRecDepth 100000 in
set_option maxHeartbeats 4000000 in
theorem c6_day {m : zmem} {D Y C L W : Nat} (hI : CI m D Y C L W) {h : Int32} : Ei MX6_day 6 [.ref 0, .int h] m ((sk_day m D Y h).1) ((sk_day m D Y h).2) := by
  obtain ⟨hD, hD7, hY, hY8, hC, hC4, hL, hL4, hW, hW20⟩ := id hI
  refine Ei.of (by decide) (Nat.le_of_ble_eq_true rfl) ?_
  show Z _ 0 [(0, .ref 0), (1, .int h)] _ _ _ _
  refine z_iload_n 1 dX6_day_0 rfl rfl ?_
  refine z_bipush (-9) dX6_day_1 (by decide) ?_
  refine z_icmp_lt 12 dX6_day_3 (by decide) (fun c_1 => ?_) (fun c_1 => ?_)
  · refine z_ldc (-1000000002) dX6_day_12 nX6_77 ?_
    exact y_iret dX6_day_14 rfl (by simp [sk_day, c_1]) (by simp [sk_day, c_1])
  · refine z_iload_n 1 dX6_day_6 rfl rfl ?_
    refine z_bipush 9 dX6_day_7 (by decide) ?_
    refine z_icmp_le 15 dX6_day_9 (by decide) (fun c_2 => ?_) (fun c_2 => ?_)
    · refine z_aload_n 0 dX6_day_15 rfl rfl ?_
      refine y_getR fX6_29 dX6_day_16 rfl rfl ?_
      refine z_iload_n 1 dX6_day_19 rfl rfl ?_
      refine y_V0 [_] _ kX6_202 (c_day isPar7 hD hD7 hY hY8) rfl isPar7.1 dX6_day_20 rfl rfl (Nat.le_of_ble_eq_true rfl) (Nat.le_of_ble_eq_true rfl) ⟨Nat.zero_le _, Nat.zero_le _⟩ ?_
      refine z_aload_n 0 dX6_day_23 rfl rfl ?_
      refine y_getR fX6_29 dX6_day_24 rfl rfl ?_
      refine y_Vi [] _ kX6_205 (c_soft isPar7 (hI.keep (K5.day _ _ _ _)).2.2.1 hY8) rfl isPar7.1 dX6_day_27 rfl rfl (Nat.le_of_ble_eq_true rfl) (Nat.le_of_ble_eq_true rfl) ⟨Nat.zero_le _, Nat.zero_le _⟩ ?_
      exact y_iret dX6_day_30 rfl (by simp [sk_day, c_1, c_2]) (by simp [sk_day, c_1, c_2])
    · refine z_ldc (-1000000002) dX6_day_12 nX6_77 ?_
      exact y_iret dX6_day_14 rfl (by simp [sk_day, c_1, c_2]) (by simp [sk_day, c_1, c_2])
set_option maxRecDepth 100000 in
set_option maxHeartbeats 4000000 in
theorem c6_lay {m : zmem} {D Y C L W : Nat} (hI : CI m D Y C L W) {d i : Int32} : Ei MX6_lay 6 [.ref 0, .int d, .int i] m ((sk_lay m D d i).1) ((sk_lay m D d i).2) := by
  obtain ⟨hD, hD7, hY, hY8, hC, hC4, hL, hL4, hW, hW20⟩ := id hI
  refine Ei.of (by decide) (Nat.le_of_ble_eq_true rfl) ?_
  show Z _ 0 [(0, .ref 0), (1, .int d), (2, .int i)] _ _ _ _
  refine z_aload_n 0 dX6_lay_0 rfl rfl ?_
  refine y_getR fX6_29 dX6_lay_1 rfl rfl ?_
  refine z_iload_n 1 dX6_lay_4 rfl rfl ?_
  refine y_Vi [_] _ kX6_150 (c_hasDead isPar7) rfl isPar7.1 dX6_lay_5 rfl rfl (Nat.le_of_ble_eq_true rfl) (Nat.le_of_ble_eq_true rfl) ⟨Nat.zero_le _, Nat.zero_le _⟩ ?_
  refine z_if_eq 22 dX6_lay_8 (by decide) (fun c_1 => ?_) (fun c_1 => ?_)
  · refine z_ldc (-1000000001) dX6_lay_22 nX6_137 ?_
    exact y_iret dX6_lay_24 rfl (by simp [sk_lay, c_1]) (by simp [sk_lay, c_1])
  · refine z_aload_n 0 dX6_lay_11 rfl rfl ?_
    refine y_getR fX6_29 dX6_lay_12 rfl rfl ?_
    refine z_iload_n 2 dX6_lay_15 rfl rfl ?_
    refine y_Vi [_] _ kX6_133 (c_hasYard isPar7) rfl isPar7.1 dX6_lay_16 rfl rfl (Nat.le_of_ble_eq_true rfl) (Nat.le_of_ble_eq_true rfl) ⟨Nat.zero_le _, Nat.zero_le _⟩ ?_
    refine z_if_ne 25 dX6_lay_19 (by decide) (fun c_2 => ?_) (fun c_2 => ?_)
    · refine z_aload_n 0 dX6_lay_25 rfl rfl ?_
      refine y_getR fX6_29 dX6_lay_26 rfl rfl ?_
      refine y_Vi [] _ kX6_123 (c_waiting isPar7 hD hD7) rfl isPar7.1 dX6_lay_29 rfl rfl (Nat.le_of_ble_eq_true rfl) (Nat.le_of_ble_eq_true rfl) ⟨Nat.zero_le _, Nat.zero_le _⟩ ?_
      refine z_iload_n 1 dX6_lay_32 rfl rfl ?_
      refine y_Si [_, _] _ kX6_174 c_has dX6_lay_33 rfl rfl (Nat.le_of_ble_eq_true rfl) (Nat.le_of_ble_eq_true rfl) ⟨Nat.zero_le _, Nat.zero_le _⟩ ?_
      refine z_if_eq 53 dX6_lay_36 (by decide) (fun c_3 => ?_) (fun c_3 => ?_)
      · refine z_ldc (-1000000003) dX6_lay_53 nX6_192 ?_
        exact y_iret dX6_lay_55 rfl (by simp [sk_lay, c_1, c_2, c_3]) (by simp [sk_lay, c_1, c_2, c_3])
      · refine z_aload_n 0 dX6_lay_39 rfl rfl ?_
        refine y_getR fX6_29 dX6_lay_40 rfl rfl ?_
        refine y_Vi [] _ kX6_214 (c_taken isPar7 hD hD7) rfl isPar7.1 dX6_lay_43 rfl rfl (Nat.le_of_ble_eq_true rfl) (Nat.le_of_ble_eq_true rfl) ⟨Nat.zero_le _, Nat.zero_le _⟩ ?_
        refine z_iload_n 2 dX6_lay_46 rfl rfl ?_
        refine y_Si [_, _] _ kX6_174 c_has dX6_lay_47 rfl rfl (Nat.le_of_ble_eq_true rfl) (Nat.le_of_ble_eq_true rfl) ⟨Nat.zero_le _, Nat.zero_le _⟩ ?_
        refine z_if_eq 56 dX6_lay_50 (by decide) (fun c_4 => ?_) (fun c_4 => ?_)
        · refine z_aload_n 0 dX6_lay_56 rfl rfl ?_
          refine y_getR fX6_29 dX6_lay_57 rfl rfl ?_
          refine z_iload_n 1 dX6_lay_60 rfl rfl ?_
          refine z_iload_n 2 dX6_lay_61 rfl rfl ?_
          refine y_Vi [_, _] _ kX6_217 (c_layDown isPar7) rfl isPar7.1 dX6_lay_62 rfl rfl (Nat.le_of_ble_eq_true rfl) (Nat.le_of_ble_eq_true rfl) ⟨Nat.zero_le _, Nat.zero_le _⟩ ?_
          exact y_iret dX6_lay_65 rfl (by simp [sk_lay, c_1, c_2, c_3, c_4]) (by simp [sk_lay, c_1, c_2, c_3, c_4])
        · refine z_ldc (-1000000003) dX6_lay_53 nX6_192 ?_
          exact y_iret dX6_lay_55 rfl (by simp [sk_lay, c_1, c_2, c_3, c_4]) (by simp [sk_lay, c_1, c_2, c_3, c_4])
    · refine z_ldc (-1000000001) dX6_lay_22 nX6_137 ?_
      exact y_iret dX6_lay_24 rfl (by simp [sk_lay, c_1, c_2]) (by simp [sk_lay, c_1, c_2])
set_option maxRecDepth 100000 in
set_option maxHeartbeats 4000000 in
theorem c6_offended {m : zmem} {D Y C L W : Nat} (hI : CI m D Y C L W) {d : Int32} : Ei MX6_offended 6 [.ref 0, .int d] m ((sk_offended m D C d).1) ((sk_offended m D C d).2) := by
  obtain ⟨hD, hD7, hY, hY8, hC, hC4, hL, hL4, hW, hW20⟩ := id hI
  refine Ei.of (by decide) (Nat.le_of_ble_eq_true rfl) ?_
  show Z _ 0 [(0, .ref 0), (1, .int d)] _ _ _ _
  refine z_aload_n 0 dX6_offended_0 rfl rfl ?_
  refine y_getR fX6_29 dX6_offended_1 rfl rfl ?_
  refine z_iload_n 1 dX6_offended_4 rfl rfl ?_
  refine y_Vi [_] _ kX6_150 (c_hasDead isPar7) rfl isPar7.1 dX6_offended_5 rfl rfl (Nat.le_of_ble_eq_true rfl) (Nat.le_of_ble_eq_true rfl) ⟨Nat.zero_le _, Nat.zero_le _⟩ ?_
  refine z_if_ne 14 dX6_offended_8 (by decide) (fun c_1 => ?_) (fun c_1 => ?_)
  · refine z_aload_n 0 dX6_offended_14 rfl rfl ?_
    refine y_getR fX6_29 dX6_offended_15 rfl rfl ?_
    refine y_Vi [] _ kX6_127 (c_laid isPar7 hD hD7) rfl isPar7.1 dX6_offended_18 rfl rfl (Nat.le_of_ble_eq_true rfl) (Nat.le_of_ble_eq_true rfl) ⟨Nat.zero_le _, Nat.zero_le _⟩ ?_
    refine z_iload_n 1 dX6_offended_21 rfl rfl ?_
    refine y_Si [_, _] _ kX6_174 c_has dX6_offended_22 rfl rfl (Nat.le_of_ble_eq_true rfl) (Nat.le_of_ble_eq_true rfl) ⟨Nat.zero_le _, Nat.zero_le _⟩ ?_
    refine z_if_ne 31 dX6_offended_25 (by decide) (fun c_2 => ?_) (fun c_2 => ?_)
    · refine z_aload_n 0 dX6_offended_31 rfl rfl ?_
      refine y_getR fX6_59 dX6_offended_32 rfl rfl ?_
      refine z_aload_n 0 dX6_offended_35 rfl rfl ?_
      refine y_getR fX6_29 dX6_offended_36 rfl rfl ?_
      refine z_aload_n 0 dX6_offended_39 rfl rfl ?_
      refine y_getR fX6_19 dX6_offended_40 rfl rfl ?_
      refine y_V0 [_, _] _ kX6_241 (c_planBegin hC hC4) rfl rfl dX6_offended_43 rfl rfl (Nat.le_of_ble_eq_true rfl) (Nat.le_of_ble_eq_true rfl) ⟨Nat.zero_le _, Nat.zero_le _⟩ ?_
      refine z_aload_n 0 dX6_offended_46 rfl rfl ?_
      refine y_getR fX6_59 dX6_offended_47 rfl rfl ?_
      refine z_iload_n 1 dX6_offended_50 rfl rfl ?_
      refine y_Vi [_] _ kX6_245 c_whoOff rfl rfl dX6_offended_51 rfl rfl (Nat.le_of_ble_eq_true rfl) (Nat.le_of_ble_eq_true rfl) ⟨Nat.zero_le _, Nat.zero_le _⟩ ?_
      exact y_iret dX6_offended_54 rfl (by simp [sk_offended, c_1, c_2]) (by simp [sk_offended, c_1, c_2])
    · refine z_ldc (-1000000003) dX6_offended_28 nX6_192 ?_
      exact y_iret dX6_offended_30 rfl (by simp [sk_offended, c_1, c_2]) (by simp [sk_offended, c_1, c_2])
  · refine z_ldc (-1000000001) dX6_offended_11 nX6_137 ?_
    exact y_iret dX6_offended_13 rfl (by simp [sk_offended, c_1]) (by simp [sk_offended, c_1])
set_option maxRecDepth 100000 in
set_option maxHeartbeats 4000000 in
theorem c6_quarrels {m : zmem} {D Y C L W : Nat} (hI : CI m D Y C L W)  : Ei MX6_quarrels 6 [.ref 0] m (sqnow (spbegin C m)) (spbegin C m) := by
  obtain ⟨hD, hD7, hY, hY8, hC, hC4, hL, hL4, hW, hW20⟩ := id hI
  refine Ei.of (by decide) (Nat.le_of_ble_eq_true rfl) ?_
  show Z _ 0 [(0, .ref 0)] _ _ _ _
  refine z_aload_n 0 dX6_quarrels_0 rfl rfl ?_
  refine y_getR fX6_59 dX6_quarrels_1 rfl rfl ?_
  refine z_aload_n 0 dX6_quarrels_4 rfl rfl ?_
  refine y_getR fX6_29 dX6_quarrels_5 rfl rfl ?_
  refine z_aload_n 0 dX6_quarrels_8 rfl rfl ?_
  refine y_getR fX6_19 dX6_quarrels_9 rfl rfl ?_
  refine y_V0 [_, _] _ kX6_241 (c_planBegin hC hC4) rfl rfl dX6_quarrels_12 rfl rfl (Nat.le_of_ble_eq_true rfl) (Nat.le_of_ble_eq_true rfl) ⟨Nat.zero_le _, Nat.zero_le _⟩ ?_
  refine z_aload_n 0 dX6_quarrels_15 rfl rfl ?_
  refine y_getR fX6_59 dX6_quarrels_16 rfl rfl ?_
  refine y_Vi [] _ kX6_248 c_qnow rfl rfl dX6_quarrels_19 rfl rfl (Nat.le_of_ble_eq_true rfl) (Nat.le_of_ble_eq_true rfl) ⟨Nat.zero_le _, Nat.zero_le _⟩ ?_
  exact y_iret dX6_quarrels_22 rfl rfl rfl
set_option maxRecDepth 100000 in
set_option maxHeartbeats 4000000 in
theorem c6_when {m : zmem} {D Y C L W : Nat} (hI : CI m D Y C L W) {n h : Int32} : Ei MX6_when 6 [.ref 0, .int n, .int h] m (sk_when m D Y n h) (m) := by
  obtain ⟨hD, hD7, hY, hY8, hC, hC4, hL, hL4, hW, hW20⟩ := id hI
  refine Ei.of (by decide) (Nat.le_of_ble_eq_true rfl) ?_
  show Z _ 0 [(0, .ref 0), (1, .int n), (2, .int h)] _ _ _ _
  refine z_iload_n 1 dX6_when_0 rfl rfl ?_
  refine z_iconst 1 dX6_when_1 (by decide) ?_
  refine z_icmp_lt 22 dX6_when_2 (by decide) (fun c_1 => ?_) (fun c_1 => ?_)
  · refine z_ldc (-1000000002) dX6_when_22 nX6_77 ?_
    exact y_iret dX6_when_24 rfl (by simp [sk_when, c_1]) rfl
  · refine z_iload_n 1 dX6_when_5 rfl rfl ?_
    refine z_bipush 8 dX6_when_6 (by decide) ?_
    refine z_icmp_gt 22 dX6_when_8 (by decide) (fun c_2 => ?_) (fun c_2 => ?_)
    · refine z_ldc (-1000000002) dX6_when_22 nX6_77 ?_
      exact y_iret dX6_when_24 rfl (by simp [sk_when, c_1, c_2]) rfl
    · refine z_iload_n 2 dX6_when_11 rfl rfl ?_
      refine z_iconst 1 dX6_when_12 (by decide) ?_
      refine z_icmp_lt 22 dX6_when_13 (by decide) (fun c_3 => ?_) (fun c_3 => ?_)
      · refine z_ldc (-1000000002) dX6_when_22 nX6_77 ?_
        exact y_iret dX6_when_24 rfl (by simp [sk_when, c_1, c_2, c_3]) rfl
      · refine z_iload_n 2 dX6_when_16 rfl rfl ?_
        refine z_bipush 9 dX6_when_17 (by decide) ?_
        refine z_icmp_le 25 dX6_when_19 (by decide) (fun c_4 => ?_) (fun c_4 => ?_)
        · refine z_aload_n 0 dX6_when_25 rfl rfl ?_
          refine y_getR fX6_29 dX6_when_26 rfl rfl ?_
          refine z_iload_n 1 dX6_when_29 rfl rfl ?_
          refine z_iload_n 2 dX6_when_30 rfl rfl ?_
          refine y_Vi [_, _] _ kX6_264 (c_until isPar7 hD hD7 hY hY8) rfl isPar7.1 dX6_when_31 rfl rfl (Nat.le_of_ble_eq_true rfl) (Nat.le_of_ble_eq_true rfl) ⟨Nat.zero_le _, Nat.zero_le _⟩ ?_
          exact y_iret dX6_when_34 rfl (by simp [sk_when, c_1, c_2, c_3, c_4]) rfl
        · refine z_ldc (-1000000002) dX6_when_22 nX6_77 ?_
          exact y_iret dX6_when_24 rfl (by simp [sk_when, c_1, c_2, c_3, c_4]) rfl
set_option maxRecDepth 100000 in
set_option maxHeartbeats 4000000 in
theorem c6_label {m : zmem} {D Y C L W : Nat} (hI : CI m D Y C L W) {c n : Int32} : Ei MX6_label 5 [.ref 0, .int c, .int n] m ((sk_label m c n).1) ((sk_label m c n).2) := by
  obtain ⟨hD, hD7, hY, hY8, hC, hC4, hL, hL4, hW, hW20⟩ := id hI
  refine Ei.of (by decide) (Nat.le_of_ble_eq_true rfl) ?_
  show Z _ 0 [(0, .ref 0), (1, .int c), (2, .int n)] _ _ _ _
  refine z_aload_n 0 dX6_label_0 rfl rfl ?_
  refine y_getR fX6_29 dX6_label_1 rfl rfl ?_
  refine z_iload_n 1 dX6_label_4 rfl rfl ?_
  refine y_Vi [_] _ kX6_150 (c_hasDead isPar7) rfl isPar7.1 dX6_label_5 rfl rfl (Nat.le_of_ble_eq_true rfl) (Nat.le_of_ble_eq_true rfl) ⟨Nat.zero_le _, Nat.zero_le _⟩ ?_
  refine z_if_eq 22 dX6_label_8 (by decide) (fun c_1 => ?_) (fun c_1 => ?_)
  · refine z_ldc (-1000000001) dX6_label_22 nX6_137 ?_
    exact y_iret dX6_label_24 rfl (by simp [sk_label, c_1]) (by simp [sk_label, c_1])
  · refine z_aload_n 0 dX6_label_11 rfl rfl ?_
    refine y_getR fX6_29 dX6_label_12 rfl rfl ?_
    refine z_iload_n 2 dX6_label_15 rfl rfl ?_
    refine y_Vi [_] _ kX6_150 (c_hasDead isPar7) rfl isPar7.1 dX6_label_16 rfl rfl (Nat.le_of_ble_eq_true rfl) (Nat.le_of_ble_eq_true rfl) ⟨Nat.zero_le _, Nat.zero_le _⟩ ?_
    refine z_if_ne 25 dX6_label_19 (by decide) (fun c_2 => ?_) (fun c_2 => ?_)
    · refine z_aload_n 0 dX6_label_25 rfl rfl ?_
      refine y_getR fX6_29 dX6_label_26 rfl rfl ?_
      refine y_getR fX6_178 dX6_label_29 isPar7.1 rfl ?_
      refine z_iload_n 1 dX6_label_32 rfl rfl ?_
      refine y_Si [_, _] _ kX6_142 (c_at (q := (7 + 8)) (n := 7) isPar7.2.2.2.2.2.2.2.2.1 (by decide)) dX6_label_33 rfl rfl (Nat.le_of_ble_eq_true rfl) (Nat.le_of_ble_eq_true rfl) ⟨Nat.zero_le _, Nat.zero_le _⟩ ?_
      refine z_topi (fun v_3 e_3 => ?_)
      refine z_istore_n (lv' := [(3, .int v_3), (0, .ref 0), (1, .int c), (2, .int n)]) dX6_label_36 rfl (Nat.le_of_ble_eq_true rfl) rfl ?_
      refine z_aload_n 1 dX6_label_37 rfl rfl ?_
      refine y_getR fX6_29 dX6_label_38 rfl rfl ?_
      refine y_getR fX6_178 dX6_label_41 isPar7.1 rfl ?_
      refine z_iload_n 2 dX6_label_44 rfl rfl ?_
      refine z_iload_n 3 dX6_label_45 rfl rfl ?_
      refine y_S0 [_, _, _] _ kX6_188 (c_put (q := (7 + 8)) (n := 7) isPar7.2.2.2.2.2.2.2.2.1 (by decide)) dX6_label_46 rfl rfl (Nat.le_of_ble_eq_true rfl) (Nat.le_of_ble_eq_true rfl) ⟨Nat.zero_le _, Nat.zero_le _⟩ ?_
      refine z_iload_n 0 dX6_label_49 rfl rfl ?_
      exact y_iret dX6_label_50 rfl (by simp [sk_label, c_1, c_2, e_3]) (by simp [sk_label, c_1, c_2, e_3])
    · refine z_ldc (-1000000001) dX6_label_22 nX6_137 ?_
      exact y_iret dX6_label_24 rfl (by simp [sk_label, c_1, c_2]) (by simp [sk_label, c_1, c_2])
set_option maxRecDepth 100000 in
set_option maxHeartbeats 4000000 in
theorem c6_mark {m : zmem} {D Y C L W : Nat} (hI : CI m D Y C L W) {c s : Int32} : Ei MX6_mark 5 [.ref 0, .int c, .int s] m ((sk_mark m c s).1) ((sk_mark m c s).2) := by
  obtain ⟨hD, hD7, hY, hY8, hC, hC4, hL, hL4, hW, hW20⟩ := id hI
  refine Ei.of (by decide) (Nat.le_of_ble_eq_true rfl) ?_
  show Z _ 0 [(0, .ref 0), (1, .int c), (2, .int s)] _ _ _ _
  refine z_aload_n 0 dX6_mark_0 rfl rfl ?_
  refine y_getR fX6_29 dX6_mark_1 rfl rfl ?_
  refine z_iload_n 1 dX6_mark_4 rfl rfl ?_
  refine y_Vi [_] _ kX6_150 (c_hasDead isPar7) rfl isPar7.1 dX6_mark_5 rfl rfl (Nat.le_of_ble_eq_true rfl) (Nat.le_of_ble_eq_true rfl) ⟨Nat.zero_le _, Nat.zero_le _⟩ ?_
  refine z_if_eq 28 dX6_mark_8 (by decide) (fun c_1 => ?_) (fun c_1 => ?_)
  · refine z_ldc (-1000000001) dX6_mark_28 nX6_137 ?_
    exact y_iret dX6_mark_30 rfl (by simp [sk_mark, c_1]) (by simp [sk_mark, c_1])
  · refine z_iload_n 2 dX6_mark_11 rfl rfl ?_
    refine z_aload_n 0 dX6_mark_12 rfl rfl ?_
    refine y_getR fX6_29 dX6_mark_13 rfl rfl ?_
    refine y_getI fX6_103 dX6_mark_16 isPar7.1 rfl ?_
    refine y_Si [_] _ kX6_270 c_allBelow dX6_mark_19 rfl rfl (Nat.le_of_ble_eq_true rfl) (Nat.le_of_ble_eq_true rfl) ⟨Nat.zero_le _, Nat.zero_le _⟩ ?_
    refine z_iconst (-1) dX6_mark_22 (by decide) ?_
    refine z_ixor dX6_mark_23 ?_
    refine z_iand dX6_mark_24 ?_
    refine z_itop (y := (smkc m s)) rfl ?_
    refine z_if_eq 31 dX6_mark_25 (by decide) (fun c_2 => ?_) (fun c_2 => ?_)
    · refine z_aload_n 0 dX6_mark_31 rfl rfl ?_
      refine y_getR fX6_29 dX6_mark_32 rfl rfl ?_
      refine y_getR fX6_181 dX6_mark_35 isPar7.1 rfl ?_
      refine z_iload_n 1 dX6_mark_38 rfl rfl ?_
      refine y_Si [_, _] _ kX6_142 (c_at (q := (7 + 9)) (n := 7) isPar7.2.2.2.2.2.2.2.2.2 (by decide)) dX6_mark_39 rfl rfl (Nat.le_of_ble_eq_true rfl) (Nat.le_of_ble_eq_true rfl) ⟨Nat.zero_le _, Nat.zero_le _⟩ ?_
      refine z_topi (fun v_3 e_3 => ?_)
      refine z_istore_n (lv' := [(3, .int v_3), (0, .ref 0), (1, .int c), (2, .int s)]) dX6_mark_42 rfl (Nat.le_of_ble_eq_true rfl) rfl ?_
      refine z_aload_n 1 dX6_mark_43 rfl rfl ?_
      refine y_getR fX6_29 dX6_mark_44 rfl rfl ?_
      refine y_getR fX6_181 dX6_mark_47 isPar7.1 rfl ?_
      refine z_iload_n 2 dX6_mark_50 rfl rfl ?_
      refine z_iload_n 3 dX6_mark_51 rfl rfl ?_
      refine y_S0 [_, _, _] _ kX6_188 (c_put (q := (7 + 9)) (n := 7) isPar7.2.2.2.2.2.2.2.2.2 (by decide)) dX6_mark_52 rfl rfl (Nat.le_of_ble_eq_true rfl) (Nat.le_of_ble_eq_true rfl) ⟨Nat.zero_le _, Nat.zero_le _⟩ ?_
      refine z_iload_n 0 dX6_mark_55 rfl rfl ?_
      exact y_iret dX6_mark_56 rfl (by simp [sk_mark, c_1, c_2, e_3]) (by simp [sk_mark, c_1, c_2, e_3])
    · refine z_ldc (-1000000001) dX6_mark_28 nX6_137 ?_
      exact y_iret dX6_mark_30 rfl (by simp [sk_mark, c_1, c_2]) (by simp [sk_mark, c_1, c_2])
set_option maxRecDepth 100000 in
set_option maxHeartbeats 4000000 in
theorem c6_write {m : zmem} {D Y C L W : Nat} (hI : CI m D Y C L W) {d i : Int32} : Ei MX6_write 5 [.ref 0, .int d, .int i] m ((sk_write m d i).1) ((sk_write m d i).2) := by
  obtain ⟨hD, hD7, hY, hY8, hC, hC4, hL, hL4, hW, hW20⟩ := id hI
  refine Ei.of (by decide) (Nat.le_of_ble_eq_true rfl) ?_
  show Z _ 0 [(0, .ref 0), (1, .int d), (2, .int i)] _ _ _ _
  refine z_aload_n 0 dX6_write_0 rfl rfl ?_
  refine y_getR fX6_29 dX6_write_1 rfl rfl ?_
  refine z_iload_n 1 dX6_write_4 rfl rfl ?_
  refine y_Vi [_] _ kX6_150 (c_hasDead isPar7) rfl isPar7.1 dX6_write_5 rfl rfl (Nat.le_of_ble_eq_true rfl) (Nat.le_of_ble_eq_true rfl) ⟨Nat.zero_le _, Nat.zero_le _⟩ ?_
  refine z_if_eq 22 dX6_write_8 (by decide) (fun c_1 => ?_) (fun c_1 => ?_)
  · refine z_ldc (-1000000001) dX6_write_22 nX6_137 ?_
    exact y_iret dX6_write_24 rfl (by simp [sk_write, c_1]) (by simp [sk_write, c_1])
  · refine z_aload_n 0 dX6_write_11 rfl rfl ?_
    refine y_getR fX6_29 dX6_write_12 rfl rfl ?_
    refine z_iload_n 2 dX6_write_15 rfl rfl ?_
    refine y_Vi [_] _ kX6_133 (c_hasYard isPar7) rfl isPar7.1 dX6_write_16 rfl rfl (Nat.le_of_ble_eq_true rfl) (Nat.le_of_ble_eq_true rfl) ⟨Nat.zero_le _, Nat.zero_le _⟩ ?_
    refine z_if_ne 25 dX6_write_19 (by decide) (fun c_2 => ?_) (fun c_2 => ?_)
    · refine z_aload_n 0 dX6_write_25 rfl rfl ?_
      refine y_getR fX6_52 dX6_write_26 rfl rfl ?_
      refine y_getI fX6_100 dX6_write_29 rfl rfl ?_
      refine z_bipush 20 dX6_write_32 (by decide) ?_
      refine z_icmp_lt 40 dX6_write_34 (by decide) (fun c_3 => ?_) (fun c_3 => ?_)
      · refine z_aload_n 0 dX6_write_40 rfl rfl ?_
        refine y_getR fX6_52 dX6_write_41 rfl rfl ?_
        refine z_iload_n 1 dX6_write_44 rfl rfl ?_
        refine z_iload_n 2 dX6_write_45 rfl rfl ?_
        refine y_V0 [_, _] _ kX6_293 c_addB rfl rfl dX6_write_46 rfl rfl (Nat.le_of_ble_eq_true rfl) (Nat.le_of_ble_eq_true rfl) ⟨Nat.zero_le _, Nat.zero_le _⟩ ?_
        refine z_aload_n 0 dX6_write_49 rfl rfl ?_
        refine y_getR fX6_52 dX6_write_50 rfl rfl ?_
        refine y_getI fX6_100 dX6_write_53 rfl rfl ?_
        exact y_iret dX6_write_56 rfl (by simp [sk_write, c_1, c_2, c_3]) (by simp [sk_write, c_1, c_2, c_3])
      · refine z_ldc (-1000000004) dX6_write_37 nX6_82 ?_
        exact y_iret dX6_write_39 rfl (by simp [sk_write, c_1, c_2, c_3]) (by simp [sk_write, c_1, c_2, c_3])
    · refine z_ldc (-1000000001) dX6_write_22 nX6_137 ?_
      exact y_iret dX6_write_24 rfl (by simp [sk_write, c_1, c_2]) (by simp [sk_write, c_1, c_2])
set_option maxRecDepth 100000 in
set_option maxHeartbeats 4000000 in
theorem c6_tear {m : zmem} {D Y C L W : Nat} (hI : CI m D Y C L W)  : Ei MX6_tear 1 [.ref 0] m (m 47 2) (mset m 47 2 0) := by
  obtain ⟨hD, hD7, hY, hY8, hC, hC4, hL, hL4, hW, hW20⟩ := id hI
  refine Ei.of (by decide) (Nat.le_of_ble_eq_true rfl) ?_
  show Z _ 0 [(0, .ref 0)] _ _ _ _
  refine z_aload_n 0 dX6_tear_0 rfl rfl ?_
  refine y_getR fX6_52 dX6_tear_1 rfl rfl ?_
  refine y_getI fX6_100 dX6_tear_4 rfl rfl ?_
  refine z_topi (fun v_1 e_1 => ?_)
  refine z_istore_n (lv' := [(1, .int v_1), (0, .ref 0)]) dX6_tear_7 rfl (Nat.le_of_ble_eq_true rfl) rfl ?_
  refine z_aload_n 1 dX6_tear_8 rfl rfl ?_
  refine y_getR fX6_52 dX6_tear_9 rfl rfl ?_
  refine z_iconst 0 dX6_tear_12 (by decide) ?_
  refine y_putI fX6_100 dX6_tear_13 rfl rfl ?_
  refine z_iload_n 0 dX6_tear_16 rfl rfl ?_
  exact y_iret dX6_tear_17 rfl e_1 rfl
set_option maxRecDepth 100000 in
set_option maxHeartbeats 4000000 in
theorem c6_seed {m : zmem} {D Y C L W : Nat} (hI : CI m D Y C L W) {v : Int32} : Ei MX6_seed 1 [.ref 0, .int v] m ((sk_seed m v).1) ((sk_seed m v).2) := by
  obtain ⟨hD, hD7, hY, hY8, hC, hC4, hL, hL4, hW, hW20⟩ := id hI
  refine Ei.of (by decide) (Nat.le_of_ble_eq_true rfl) ?_
  show Z _ 0 [(0, .ref 0), (1, .int v)] _ _ _ _
  refine z_iload_n 1 dX6_seed_0 rfl rfl ?_
  refine z_if_ge 7 dX6_seed_1 (by decide) (fun c_1 => ?_) (fun c_1 => ?_)
  · refine z_aload_n 0 dX6_seed_7 rfl rfl ?_
    refine y_getR fX6_29 dX6_seed_8 rfl rfl ?_
    refine y_getI fX6_93 dX6_seed_11 isPar7.1 rfl ?_
    refine z_topi (fun v_2 e_2 => ?_)
    refine z_istore_n (lv' := [(2, .int v_2), (0, .ref 0), (1, .int v)]) dX6_seed_14 rfl (Nat.le_of_ble_eq_true rfl) rfl ?_
    refine z_aload_n 1 dX6_seed_15 rfl rfl ?_
    refine y_getR fX6_29 dX6_seed_16 rfl rfl ?_
    refine z_iload_n 2 dX6_seed_19 rfl rfl ?_
    refine y_putI fX6_93 dX6_seed_20 isPar7.1 rfl ?_
    refine z_iload_n 0 dX6_seed_23 rfl rfl ?_
    exact y_iret dX6_seed_24 rfl (by simp [sk_seed, c_1, e_2]) (by simp [sk_seed, c_1, e_2])
  · refine z_ldc (-1000000002) dX6_seed_4 nX6_77 ?_
    exact y_iret dX6_seed_6 rfl (by simp [sk_seed, c_1]) (by simp [sk_seed, c_1])
set_option maxRecDepth 100000 in
set_option maxHeartbeats 4000000 in
theorem c6_keep {m : zmem} {D Y C L W : Nat} (hI : CI m D Y C L W) {i : Int32} : Ei MX6_keep 5 [.ref 0, .int i] m ((sk_keep m i).1) ((sk_keep m i).2) := by
  obtain ⟨hD, hD7, hY, hY8, hC, hC4, hL, hL4, hW, hW20⟩ := id hI
  refine Ei.of (by decide) (Nat.le_of_ble_eq_true rfl) ?_
  show Z _ 0 [(0, .ref 0), (1, .int i)] _ _ _ _
  refine z_iload_n 1 dX6_keep_0 rfl rfl ?_
  refine z_if_lt 9 dX6_keep_1 (by decide) (fun c_1 => ?_) (fun c_1 => ?_)
  · refine z_ldc (-1000000001) dX6_keep_9 nX6_137 ?_
    exact y_iret dX6_keep_11 rfl (by simp [sk_keep, c_1]) (by simp [sk_keep, c_1])
  · refine z_iload_n 1 dX6_keep_4 rfl rfl ?_
    refine z_iconst 1 dX6_keep_5 (by decide) ?_
    refine z_icmp_le 12 dX6_keep_6 (by decide) (fun c_2 => ?_) (fun c_2 => ?_)
    · refine z_iload_n 1 dX6_keep_12 rfl rfl ?_
      refine z_if_ne 35 dX6_keep_13 (by decide) (fun c_3 => ?_) (fun c_3 => ?_)
      · refine z_aload_n 0 dX6_keep_35 rfl rfl ?_
        refine y_getR fX6_39 dX6_keep_36 rfl rfl ?_
        refine z_aload_n 0 dX6_keep_39 rfl rfl ?_
        refine y_getR fX6_29 dX6_keep_40 rfl rfl ?_
        refine y_V0 [_] _ kX6_96 (c_copyFromP (o := 7) (p := 37) isPar7 isPar37) rfl isPar37.1 dX6_keep_43 rfl rfl (Nat.le_of_ble_eq_true rfl) (Nat.le_of_ble_eq_true rfl) ⟨Nat.zero_le _, Nat.zero_le _⟩ ?_
        refine z_aload_n 0 dX6_keep_46 rfl rfl ?_
        refine z_iconst 1 dX6_keep_47 (by decide) ?_
        refine y_putZ (by decide) fX6_46 dX6_keep_48 rfl rfl ?_
        refine z_iconst 1 dX6_keep_51 (by decide) ?_
        exact y_iret dX6_keep_52 rfl (by simp [sk_keep, c_1, c_2, c_3]) (by simp [sk_keep, c_1, c_2, c_3])
      · refine z_aload_n 0 dX6_keep_16 rfl rfl ?_
        refine y_getR fX6_36 dX6_keep_17 rfl rfl ?_
        refine z_aload_n 0 dX6_keep_20 rfl rfl ?_
        refine y_getR fX6_29 dX6_keep_21 rfl rfl ?_
        refine y_V0 [_] _ kX6_96 (c_copyFromP (o := 7) (p := 27) isPar7 isPar27) rfl isPar27.1 dX6_keep_24 rfl rfl (Nat.le_of_ble_eq_true rfl) (Nat.le_of_ble_eq_true rfl) ⟨Nat.zero_le _, Nat.zero_le _⟩ ?_
        refine z_aload_n 0 dX6_keep_27 rfl rfl ?_
        refine z_iconst 1 dX6_keep_28 (by decide) ?_
        refine y_putZ (by decide) fX6_42 dX6_keep_29 rfl rfl ?_
        refine z_goto 51 dX6_keep_32 (by decide) ?_
        refine z_iconst 1 dX6_keep_51 (by decide) ?_
        exact y_iret dX6_keep_52 rfl (by simp [sk_keep, c_1, c_2, c_3]) (by simp [sk_keep, c_1, c_2, c_3])
    · refine z_ldc (-1000000001) dX6_keep_9 nX6_137 ?_
      exact y_iret dX6_keep_11 rfl (by simp [sk_keep, c_1, c_2]) (by simp [sk_keep, c_1, c_2])
set_option maxRecDepth 100000 in
set_option maxHeartbeats 4000000 in
theorem c6_goBack {m : zmem} {D Y C L W : Nat} (hI : CI m D Y C L W) {i : Int32} : Ei MX6_goBack 5 [.ref 0, .int i] m ((sk_goBack m i).1) ((sk_goBack m i).2) := by
  obtain ⟨hD, hD7, hY, hY8, hC, hC4, hL, hL4, hW, hW20⟩ := id hI
  refine Ei.of (by decide) (Nat.le_of_ble_eq_true rfl) ?_
  show Z _ 0 [(0, .ref 0), (1, .int i)] _ _ _ _
  refine z_iload_n 1 dX6_goBack_0 rfl rfl ?_
  refine z_if_lt 9 dX6_goBack_1 (by decide) (fun c_1 => ?_) (fun c_1 => ?_)
  · refine z_ldc (-1000000001) dX6_goBack_9 nX6_137 ?_
    exact y_iret dX6_goBack_11 rfl (by first | (simp [sk_goBack, c_1]; done) | (exfalso; simp_all)) (by first | (simp [sk_goBack, c_1]; done) | (exfalso; simp_all))
  · refine z_iload_n 1 dX6_goBack_4 rfl rfl ?_
    refine z_iconst 1 dX6_goBack_5 (by decide) ?_
    refine z_icmp_le 12 dX6_goBack_6 (by decide) (fun c_2 => ?_) (fun c_2 => ?_)
    · refine z_iload_n 1 dX6_goBack_12 rfl rfl ?_
      refine z_if_ne 26 dX6_goBack_13 (by decide) (fun c_3 => ?_) (fun c_3 => ?_)
      · refine z_aload_n 0 dX6_goBack_26 rfl rfl ?_
        refine y_getI fX6_46 dX6_goBack_27 rfl rfl ?_
        refine z_if_ne 36 dX6_goBack_30 (by decide) (fun c_4 => ?_) (fun c_4 => ?_)
        · refine z_aload_n 0 dX6_goBack_36 rfl rfl ?_
          refine y_getR fX6_29 dX6_goBack_37 rfl rfl ?_
          refine z_iload_n 1 dX6_goBack_40 rfl rfl ?_
          refine z_if_ne 51 dX6_goBack_41 (by decide) (fun c_5 => ?_) (fun c_5 => ?_)
          · refine z_aload_n 0 dX6_goBack_51 rfl rfl ?_
            refine y_getR fX6_39 dX6_goBack_52 rfl rfl ?_
            refine y_V0 [_] _ kX6_96 (c_copyFromP (o := 37) (p := 7) isPar37 isPar7) rfl isPar7.1 dX6_goBack_55 rfl rfl (Nat.le_of_ble_eq_true rfl) (Nat.le_of_ble_eq_true rfl) ⟨Nat.zero_le _, Nat.zero_le _⟩ ?_
            refine z_iconst 1 dX6_goBack_58 (by decide) ?_
            exact y_iret dX6_goBack_59 rfl (by first | (simp [sk_goBack, c_1, c_2, c_3, c_4, c_5]; done) | (exfalso; simp_all)) (by first | (simp [sk_goBack, c_1, c_2, c_3, c_4, c_5]; done) | (exfalso; simp_all))
          · refine z_aload_n 0 dX6_goBack_44 rfl rfl ?_
            refine y_getR fX6_36 dX6_goBack_45 rfl rfl ?_
            refine z_goto 55 dX6_goBack_48 (by decide) ?_
            refine y_V0 [_] _ kX6_96 (c_copyFromP (o := 27) (p := 7) isPar27 isPar7) rfl isPar7.1 dX6_goBack_55 rfl rfl (Nat.le_of_ble_eq_true rfl) (Nat.le_of_ble_eq_true rfl) ⟨Nat.zero_le _, Nat.zero_le _⟩ ?_
            refine z_iconst 1 dX6_goBack_58 (by decide) ?_
            exact y_iret dX6_goBack_59 rfl (by first | (simp [sk_goBack, c_1, c_2, c_3, c_4, c_5]; done) | (exfalso; simp_all)) (by first | (simp [sk_goBack, c_1, c_2, c_3, c_4, c_5]; done) | (exfalso; simp_all))
        · refine z_ldc (-1000000003) dX6_goBack_33 nX6_192 ?_
          exact y_iret dX6_goBack_35 rfl (by first | (simp [sk_goBack, c_1, c_2, c_3, c_4]; done) | (exfalso; simp_all)) (by first | (simp [sk_goBack, c_1, c_2, c_3, c_4]; done) | (exfalso; simp_all))
      · refine z_aload_n 0 dX6_goBack_16 rfl rfl ?_
        refine y_getI fX6_42 dX6_goBack_17 rfl rfl ?_
        refine z_if_ne 36 dX6_goBack_20 (by decide) (fun c_6 => ?_) (fun c_6 => ?_)
        · refine z_aload_n 0 dX6_goBack_36 rfl rfl ?_
          refine y_getR fX6_29 dX6_goBack_37 rfl rfl ?_
          refine z_iload_n 1 dX6_goBack_40 rfl rfl ?_
          refine z_if_ne 51 dX6_goBack_41 (by decide) (fun c_7 => ?_) (fun c_7 => ?_)
          · refine z_aload_n 0 dX6_goBack_51 rfl rfl ?_
            refine y_getR fX6_39 dX6_goBack_52 rfl rfl ?_
            refine y_V0 [_] _ kX6_96 (c_copyFromP (o := 37) (p := 7) isPar37 isPar7) rfl isPar7.1 dX6_goBack_55 rfl rfl (Nat.le_of_ble_eq_true rfl) (Nat.le_of_ble_eq_true rfl) ⟨Nat.zero_le _, Nat.zero_le _⟩ ?_
            refine z_iconst 1 dX6_goBack_58 (by decide) ?_
            exact y_iret dX6_goBack_59 rfl (by first | (simp [sk_goBack, c_1, c_2, c_3, c_6, c_7]; done) | (exfalso; simp_all)) (by first | (simp [sk_goBack, c_1, c_2, c_3, c_6, c_7]; done) | (exfalso; simp_all))
          · refine z_aload_n 0 dX6_goBack_44 rfl rfl ?_
            refine y_getR fX6_36 dX6_goBack_45 rfl rfl ?_
            refine z_goto 55 dX6_goBack_48 (by decide) ?_
            refine y_V0 [_] _ kX6_96 (c_copyFromP (o := 27) (p := 7) isPar27 isPar7) rfl isPar7.1 dX6_goBack_55 rfl rfl (Nat.le_of_ble_eq_true rfl) (Nat.le_of_ble_eq_true rfl) ⟨Nat.zero_le _, Nat.zero_le _⟩ ?_
            refine z_iconst 1 dX6_goBack_58 (by decide) ?_
            exact y_iret dX6_goBack_59 rfl (by first | (simp [sk_goBack, c_1, c_2, c_3, c_6, c_7]; done) | (exfalso; simp_all)) (by first | (simp [sk_goBack, c_1, c_2, c_3, c_6, c_7]; done) | (exfalso; simp_all))
        · refine z_goto 33 dX6_goBack_23 (by decide) ?_
          refine z_ldc (-1000000003) dX6_goBack_33 nX6_192 ?_
          exact y_iret dX6_goBack_35 rfl (by first | (simp [sk_goBack, c_1, c_2, c_3, c_6]; done) | (exfalso; simp_all)) (by first | (simp [sk_goBack, c_1, c_2, c_3, c_6]; done) | (exfalso; simp_all))
    · refine z_ldc (-1000000001) dX6_goBack_9 nX6_137 ?_
      exact y_iret dX6_goBack_11 rfl (by first | (simp [sk_goBack, c_1, c_2]; done) | (exfalso; simp_all)) (by first | (simp [sk_goBack, c_1, c_2]; done) | (exfalso; simp_all))
set_option maxRecDepth 100000 in
set_option maxHeartbeats 4000000 in
theorem c6_rats {m : zmem} {D Y C L W : Nat} (hI : CI m D Y C L W) {n r : Int32} : Ei MX6_rats 6 [.ref 0, .int n, .int r] m ((sk_rats m D n r).1) ((sk_rats m D n r).2) := by
  obtain ⟨hD, hD7, hY, hY8, hC, hC4, hL, hL4, hW, hW20⟩ := id hI
  refine Ei.of (by decide) (Nat.le_of_ble_eq_true rfl) ?_
  show Z _ 0 [(0, .ref 0), (1, .int n), (2, .int r)] _ _ _ _
  refine z_iload_n 1 dX6_rats_0 rfl rfl ?_
  refine z_iconst 1 dX6_rats_1 (by decide) ?_
  refine z_icmp_lt 21 dX6_rats_2 (by decide) (fun c_1 => ?_) (fun c_1 => ?_)
  · refine z_ldc (-1000000002) dX6_rats_21 nX6_77 ?_
    exact y_iret dX6_rats_23 rfl (by first | (rw [hr]; rfl) | simp [sk_rats, c_1]) (by first | (rw [hr]; rfl) | simp [sk_rats, c_1])
  · refine z_iload_n 1 dX6_rats_5 rfl rfl ?_
    refine z_bipush 99 dX6_rats_6 (by decide) ?_
    refine z_icmp_gt 21 dX6_rats_8 (by decide) (fun c_2 => ?_) (fun c_2 => ?_)
    · refine z_ldc (-1000000002) dX6_rats_21 nX6_77 ?_
      exact y_iret dX6_rats_23 rfl (by first | (rw [hr]; rfl) | simp [sk_rats, c_1, c_2]) (by first | (rw [hr]; rfl) | simp [sk_rats, c_1, c_2])
    · refine z_iload_n 2 dX6_rats_11 rfl rfl ?_
      refine z_if_lt 21 dX6_rats_12 (by decide) (fun c_3 => ?_) (fun c_3 => ?_)
      · refine z_ldc (-1000000002) dX6_rats_21 nX6_77 ?_
        exact y_iret dX6_rats_23 rfl (by first | (rw [hr]; rfl) | simp [sk_rats, c_1, c_2, c_3]) (by first | (rw [hr]; rfl) | simp [sk_rats, c_1, c_2, c_3])
      · refine z_iload_n 2 dX6_rats_15 rfl rfl ?_
        refine z_bipush 10 dX6_rats_16 (by decide) ?_
        refine z_icmp_le 24 dX6_rats_18 (by decide) (fun c_4 => ?_) (fun c_4 => ?_)
        · refine z_iconst 0 dX6_rats_24 (by decide) ?_
          refine z_istore_n (lv' := [(3, .int 0), (0, .ref 0), (1, .int n), (2, .int r)]) dX6_rats_25 rfl (Nat.le_of_ble_eq_true rfl) rfl ?_
          have loop26 : ∀ (q : Nat) (k : Nat) (mm : zmem), k + q = n.toNatClampNeg → mm 7 1 = Int32.ofNat D → sk_rats m D n r = (sbless (sfold (fun _ m => snight m 7 D r) q k mm) 7 D, sfold (fun _ m => snight m 7 D r) q k mm) → Z (zMB (Qi ((sk_rats m D n r).1) ((sk_rats m D n r).2)) 6 MX6_rats) 26 [(0, .ref 0), (1, .int n), (2, .int r), (3, .int (Int32.ofNat k))] [] (hp mm) 0 0 := by
            intro q
            induction q with
            | zero =>
              intro k mm hk hDm hr
              have h99 := rng_le (hi := 99) c_2
              have h98 : (99 : Int32).toNatClampNeg = 99 := rfl
              refine z_iload_n 3 dX6_rats_26 rfl rfl ?_
              refine z_iload_n 1 dX6_rats_27 rfl rfl ?_
              refine z_icmp_ge 45 dX6_rats_28 (by decide) (fun c_5 => ?_) (fun c_5 => ?_)
              · refine z_aload_n 0 dX6_rats_45 rfl rfl ?_
                refine y_getR fX6_29 dX6_rats_46 rfl rfl ?_
                refine y_Vi [] _ kX6_211 (c_bless isPar7 hDm hD7) rfl isPar7.1 dX6_rats_49 rfl rfl (Nat.le_of_ble_eq_true rfl) (Nat.le_of_ble_eq_true rfl) ⟨Nat.zero_le _, Nat.zero_le _⟩ ?_
                exact y_iret dX6_rats_52 rfl (by first | (rw [hr]; rfl) | simp [sk_rats, c_1, c_2, c_3, c_4, c_5]) (by first | (rw [hr]; rfl) | simp [sk_rats, c_1, c_2, c_3, c_4, c_5])
              · exact (dz rfl (rng (lo := 1) (by decide) c_1 c_2) (by omega) (by omega) c_5).elim
            | succ q ih26 =>
              intro k mm hk hDm hr
              have h99 := rng_le (hi := 99) c_2
              have h98 : (99 : Int32).toNatClampNeg = 99 := rfl
              refine z_iload_n 3 dX6_rats_26 rfl rfl ?_
              refine z_iload_n 1 dX6_rats_27 rfl rfl ?_
              refine z_icmp_ge 45 dX6_rats_28 (by decide) (fun c_6 => ?_) (fun c_6 => ?_)
              · exact (ds rfl (rng (lo := 1) (by decide) c_1 c_2) (by omega) (by omega) c_6).elim
              · refine z_aload_n 0 dX6_rats_31 rfl rfl ?_
                refine y_getR fX6_29 dX6_rats_32 rfl rfl ?_
                refine z_iload_n 2 dX6_rats_35 rfl rfl ?_
                refine y_V0 [_] _ kX6_208 (c_night isPar7 hDm hD7) rfl isPar7.1 dX6_rats_36 rfl rfl (Nat.le_of_ble_eq_true rfl) (Nat.le_of_ble_eq_true rfl) ⟨Nat.zero_le _, Nat.zero_le _⟩ ?_
                obtain ⟨v_7, e_7⟩ : ∃ y : Int32, y = (Int32.ofNat k) + 1 := ⟨_, rfl⟩
                refine z_iinc (lv' := [(3, .int v_7), (0, .ref 0), (1, .int n), (2, .int r)]) 3 v_7 dX6_rats_39 rfl (by rw [e_7]; rfl) (Nat.le_of_ble_eq_true rfl) rfl ?_
                refine z_goto 26 dX6_rats_42 (by decide) ?_
                obtain rfl : v_7 = Int32.ofNat (k + 1) := e_7.trans (nat_succ k)
                refine z_sub [1,2,3,0] rfl ?_
                exact ih26 (k + 1) _ (by omega) ((K5.night _ _ _).2.1.trans hDm) (hr.trans rfl)
          refine z_sub [1,2,3,0] rfl ?_
          exact loop26 (n.toNatClampNeg) 0 _ (by omega) hD (by simp [sk_rats, sk_nights, c_1, c_2, c_3, c_4])
        · refine z_ldc (-1000000002) dX6_rats_21 nX6_77 ?_
          exact y_iret dX6_rats_23 rfl (by first | (rw [hr]; rfl) | simp [sk_rats, c_1, c_2, c_3, c_4]) (by first | (rw [hr]; rfl) | simp [sk_rats, c_1, c_2, c_3, c_4])
