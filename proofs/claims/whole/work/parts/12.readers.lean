/-! clauses of a parish, of a custom -/
def TS (m : zmem) (t : Int32 → Int32) (L P : Nat) : Prop := tby m = t ∧ m 1 1 = Int32.ofNat L ∧ L ≤ 400 ∧ m 1 2 = Int32.ofNat P ∧ P ≤ L
theorem tby_eq {m m' : zmem} (h1 : m' 1 1 = m 1 1) (h2 : m' 2 = m 2) : tby m' = tby m := by
  funext i
  unfold tby
  rw [h1, h2]
theorem TS.of {m m' : zmem} {t : Int32 → Int32} {L P : Nat} (h : TS m t L P) (h1 : m' 1 1 = m 1 1) (h2 : m' 2 = m 2) (h3 : m' 1 2 = m 1 2) : TS m' t L P :=
  ⟨(tby_eq h1 h2).trans h.1, h1.trans h.2.1, h.2.2.1, h3.trans h.2.2.2.1, h.2.2.2.2⟩
theorem TS.off {m : zmem} {t : Int32 → Int32} {L P a j : Nat} {v : Int32} (h : TS m t L P) (h1 : a ≠ 1) (h2 : a ≠ 2) : TS (mset m a j v) t L P :=
  h.of (by rw [mset_cell v (Ne.symm h1)]) (mset_cell v (Ne.symm h2)) (by rw [mset_cell v (Ne.symm h1)])
theorem TS.aput {m : zmem} {t : Int32 → Int32} {L P a n : Nat} {i v : Int32} (h : TS m t L P) (h1 : a ≠ 1) (h2 : a ≠ 2) : TS (aput m a n i v) t L P :=
  h.of (by rw [aput_ne (Ne.symm h1)]) (aput_ne (Ne.symm h2)) (by rw [aput_ne (Ne.symm h1)])
theorem TS.blame {m : zmem} {t : Int32 → Int32} {L P : Nat} {a b : Int32} (h : TS m t L P) : TS (sblame m a b) t L P := by
  unfold sblame
  split
  · exact h.of rfl rfl rfl
  · exact h
theorem TS.pl {m : zmem} {t : Int32 → Int32} {L P k : Nat} (h : TS m t L P) (hk : k ≤ L) : TS (spl m k) t L k :=
  ⟨(tby_eq rfl rfl).trans h.1, h.2.1, h.2.2.1, rfl, hk⟩
theorem snum_le (t : Int32 → Int32) (F : Nat) : ∀ n k v, k ≤ (snum t F n k v).1 ∧ (snum t F n k v).1 ≤ k + n := by
  intro n
  induction n with
  | zero => intro k v; exact ⟨Nat.le_refl _, Nat.le_refl _⟩
  | succ n ih =>
    intro k v
    unfold snum
    split
    · exact ⟨Nat.le_refl _, by show k ≤ _; omega⟩
    · split
      · exact ⟨Nat.le_refl _, by show k ≤ _; omega⟩
      · have := ih (k + 1) (if 3 ≤ Int32.ofNat k - Int32.ofNat F then v else v * 10 + t (Int32.ofNat k) - 48)
        omega
theorem snumr_le {t : Int32 → Int32} {L P : Nat} (h : P ≤ L) : (snumr t L P).1 ≤ L := by
  have h1 := snum_le t (sblk t L P) (L - sblk t L P) (sblk t L P) 0
  have h2 := sblk_le (t := t) h
  unfold snumr
  omega
theorem TS.num {m : zmem} {t : Int32 → Int32} {L P : Nat} {lo hi : Int32} (h : TS m t L P) : TS (snumm m t L P lo hi) t L (snumr t L P).1 := by
  have h1 := h.pl (snumr_le (t := t) h.2.2.2.2)
  unfold snumm snumb
  split
  · split
    · exact h1.blame
    · split
      · exact h1.blame
      · split
        · exact h1
        · exact h1.blame
  · exact h1.blame
def sstopP (t : Int32 → Int32) (L P : Nat) : Nat := if ¬ t (Int32.ofNat (sblk t L P)) = 59 then sblk t L P else sblk t L P + 1
theorem TS.beyond {m : zmem} {t : Int32 → Int32} {L P : Nat} (h : TS m t L P) {k : Nat} (hk : k ≤ L) (hb : ¬ t (Int32.ofNat k) = -1) : k < L := by
  rcases Nat.lt_or_ge k L with q | q
  · exact q
  · exfalso
    apply hb
    have e : k = L := by omega
    subst e
    rw [← h.1]
    unfold tby
    split
    · rfl
    · rw [if_pos (by rw [h.2.1]; exact Int32.le_refl _)]
theorem sstopP_le {m : zmem} {t : Int32 → Int32} {L P : Nat} (h : TS m t L P) : sstopP t L P ≤ L := by
  have h2 := sblk_le (t := t) h.2.2.2.2
  unfold sstopP
  split
  · omega
  · rename_i q
    have := h.beyond h2.2 (by rw [Classical.not_not.mp q]; decide)
    omega
theorem TS.stop {m : zmem} {t : Int32 → Int32} {L P : Nat} (h : TS m t L P) : TS (sstop m t L P) t L (sstopP t L P) := by
  have h1 := sstopP_le h
  have h2 := sblk_le (t := t) h.2.2.2.2
  unfold sstop sstopP at *
  split
  · rename_i q
    rw [if_pos q] at h1
    exact (h.pl h1).blame
  · rename_i q
    rw [if_neg q] at h1
    exact h.pl h1
theorem swend_le {t : Int32 → Int32} {L P : Nat} (h : P ≤ L) : swend t L P ≤ L := by
  have := sskip_le (fun k => decide (¬ t (Int32.ofNat k) < 97 ∧ ¬ 122 < t (Int32.ofNat k))) (L - P) P
  unfold swend
  omega
theorem swordm_no {m : zmem} {t : Int32 → Int32} {L P i : Nat} (h : swordi t L P i = 0) : swordm m t L P i = m := by
  unfold swordi at h
  unfold swordm
  split at h
  · cases h
  · rename_i q
    rw [if_neg q]
theorem swordm_yes {m : zmem} {t : Int32 → Int32} {L P i : Nat} (h : ¬ swordi t L P i = 0) : swordm m t L P i = spl m (swend t L P) := by
  unfold swordi at h
  unfold swordm
  split at h
  · rename_i q
    rw [if_pos q]
  · exact absurd rfl h
theorem c_numT {m : zmem} {t : Int32 → Int32} {L P : Nat} {lo hi : Int32} (h : TS m t L P) : Ei MX5_takeNumber 2 [.ref 1, .int lo, .int hi] m (snumr t L P).2 (snumm m t L P lo hi) := c_num h.1 h.2.1 h.2.2.1 h.2.2.2.1 h.2.2.2.2
theorem c_stopT {m : zmem} {t : Int32 → Int32} {L P : Nat} (h : TS m t L P) : E0 MX5_takeStop 2 [.ref 1] m (sstop m t L P) := c_stop h.1 h.2.1 h.2.2.1 h.2.2.2.1 h.2.2.2.2
theorem c_wordT {m : zmem} {t : Int32 → Int32} {L P i : Nat} (hi : i < 7) (h : TS m t L P) : Ei MX5_takeWord 4 [.ref 1, .ref (zE0 + i)] m (swordi t L P i) (swordm m t L P i) := c_word hi h.1 h.2.1 h.2.2.1 h.2.2.2.1 h.2.2.2.2
theorem c_goesT {m : zmem} {t : Int32 → Int32} {L P : Nat} (h : TS m t L P) : Ei MX5_goesOn 2 [.ref 1] m (sgo m t L P) (spl m (sblk t L P)) := c_goesOn h.1 h.2.1 h.2.2.1 h.2.2.2.1 h.2.2.2.2
def sr1 (m : zmem) (F : Int32) : zmem := if ¬ m 17 2 = 0 then sblame m 3 F else m
def sr2 (m : zmem) (t : Int32 → Int32) (L P : Nat) (F : Int32) : zmem := mset (snumm (sr1 m F) t L P 1 20) 17 2 (snumr t L P).2
def sr3 (m : zmem) (t : Int32 → Int32) (L P : Nat) (F : Int32) : zmem := mset (snumm (sr2 m t L P F) t L (snumr t L P).1 0 20) 17 3 (snumr t L (snumr t L P).1).2
def srsun (m : zmem) (t : Int32 → Int32) (L P : Nat) (F : Int32) : zmem := sstop (sr3 m t L P F) t L (snumr t L (snumr t L P).1).1
def syd1 (m : zmem) (t : Int32 → Int32) (L P : Nat) : zmem := sstop (aput (snumm m t L P 0 99) (17 + 1) 8 (m 17 0) (snumr t L P).2) t L (snumr t L P).1
def sryard (m : zmem) (t : Int32 → Int32) (L P : Nat) (F : Int32) : zmem := if m 17 0 < 8 then mset (syd1 m t L P) 17 0 (syd1 m t L P 17 0 + 1) else sblame m 3 F
def srow (m : zmem) (t : Int32 → Int32) (L P q : Nat) (hi : Int32) : zmem := aput (snumm m t L P 0 hi) q 7 (m 17 1) (snumr t L P).2
def sdd1 (m : zmem) (t : Int32 → Int32) (L P : Nat) : zmem := sstop (srow (srow (srow m t L P (17 + 2) 99) t L (snumr t L P).1 (17 + 3) 999) t L (snumr t L (snumr t L P).1).1 (17 + 4) 9) t L (snumr t L (snumr t L (snumr t L P).1).1).1
def srdead (m : zmem) (t : Int32 → Int32) (L P : Nat) (F : Int32) : zmem := if m 17 1 < 7 then mset (sdd1 m t L P) 17 1 (sdd1 m t L P 17 1 + 1) else sblame m 3 F
def sclause (m : zmem) (t : Int32 → Int32) (L P : Nat) : zmem :=
  if ¬ swordi t L P 0 = 0 then srsun (spl m (swend t L P)) t L (swend t L P) (Int32.ofNat P)
  else if ¬ swordi t L P 1 = 0 then sryard (spl m (swend t L P)) t L (swend t L P) (Int32.ofNat P)
  else if ¬ swordi t L P 2 = 0 then srdead (spl m (swend t L P)) t L (swend t L P) (Int32.ofNat P)
  else sblame m 1 (Int32.ofNat P)
def spo (m : zmem) : Nat := (m 1 2).toNatClampNeg
theorem spo_eq {m : zmem} {t : Int32 → Int32} {L P : Nat} (h : TS m t L P) : spo m = P := by
  unfold spo
  rw [h.2.2.2.1]
  exact Int32.toNatClampNeg_ofNat_of_lt (by have := h.2.2.1; have := h.2.2.2.2; omega)
theorem TS.self {m : zmem} {t : Int32 → Int32} {L P : Nat} (h : TS m t L P) : TS m t L (spo m) := by rw [spo_eq h]; exact h
theorem srsun_TS {m : zmem} {t : Int32 → Int32} {L P : Nat} {F : Int32} (h : TS m t L P) : ∃ P', TS (srsun m t L P F) t L P' := by
  have h1 : TS (sr1 m F) t L P := by
    unfold sr1
    split
    · exact h.blame
    · exact h
  exact ⟨_, ((h1.num.off (by decide) (by decide)).num.off (by decide) (by decide)).stop⟩
theorem sryard_TS {m : zmem} {t : Int32 → Int32} {L P : Nat} {F : Int32} (h : TS m t L P) : ∃ P', TS (sryard m t L P F) t L P' := by
  unfold sryard
  split
  · exact ⟨_, ((h.num.aput (by decide) (by decide)).stop).off (by decide) (by decide)⟩
  · exact ⟨_, h.blame⟩
theorem srdead_TS {m : zmem} {t : Int32 → Int32} {L P : Nat} {F : Int32} (h : TS m t L P) : ∃ P', TS (srdead m t L P F) t L P' := by
  unfold srdead
  split
  · exact ⟨_, ((((h.num.aput (by decide) (by decide)).num.aput (by decide) (by decide)).num.aput (by decide) (by decide)).stop).off (by decide) (by decide)⟩
  · exact ⟨_, h.blame⟩
theorem sclause_TS {m : zmem} {t : Int32 → Int32} {L P : Nat} (h : TS m t L P) : TS (sclause m t L P) t L (spo (sclause m t L P)) := by
  have hw := h.pl (swend_le (t := t) h.2.2.2.2)
  have key : ∃ P', TS (sclause m t L P) t L P' := by
    unfold sclause
    split
    · exact srsun_TS hw
    · split
      · exact sryard_TS hw
      · split
        · exact srdead_TS hw
        · exact ⟨_, h.blame⟩
  obtain ⟨P', hP'⟩ := key
  exact hP'.self
/-- clause by clause, at most n -/
def sread (t : Int32 → Int32) (L : Nat) : Nat → zmem → zmem
  | 0, m => m
  | n + 1, m => if sgo m t L (spo m) = 0 then spl m (sblk t L (spo m)) else sread t L n (sclause (spl m (sblk t L (spo m))) t L (sblk t L (spo m)))
def sread0 (m : zmem) : zmem := sbegin (mset (mset (mset (mset m 17 0 0) 17 1 0) 17 2 0) 17 3 0)
theorem TS.begin {m : zmem} {t : Int32 → Int32} {L : Nat} (h1 : tby m = t) (h2 : m 1 1 = Int32.ofNat L) (h3 : L ≤ 400) : TS (sbegin m) t L 0 := ⟨(tby_eq rfl rfl).trans h1, h2, h3, rfl, Nat.zero_le _⟩
set_option maxRecDepth 100000 in
set_option maxHeartbeats 4000000 in
theorem c_readSun {m : zmem} {t : Int32 → Int32} {L P : Nat} {F : Int32} (hT : TS m t L P) : E0 MX3_readSun 3 [.ref 17, .ref 1, .int F] m (srsun m t L P F) := by
  refine E0.of (by decide) (Nat.le_of_ble_eq_true rfl) ?_
  show Z _ 0 [(0, .ref 17), (1, .ref 1), (2, .int F)] _ _ _ _
  have join13 : ∀ (m1 : zmem), m1 = sr1 m F → TS m1 t L P → Z (zMB (Q0 (srsun m t L P F)) 3 MX3_readSun) 13 [(0, .ref 17), (1, .ref 1), (2, .int F)] [] (hp m1) 0 0 := by
    intro m1 h1 hT1
    refine z_aload_n 0 dX3_readSun_13 rfl rfl ?_
    refine z_aload_n 1 dX3_readSun_14 rfl rfl ?_
    refine z_iconst 1 dX3_readSun_15 (by decide) ?_
    refine z_bipush 20 dX3_readSun_16 (by decide) ?_
    refine y_Vi [_, _] _ kX3_103 (c_numT hT1) rfl rfl dX3_readSun_18 rfl rfl (Nat.le_of_ble_eq_true rfl) (Nat.le_of_ble_eq_true rfl) ⟨Nat.zero_le _, Nat.zero_le _⟩ ?_
    refine y_putI fX3_18 dX3_readSun_21 isPar17.1 rfl ?_
    refine z_aload_n 0 dX3_readSun_24 rfl rfl ?_
    refine z_aload_n 1 dX3_readSun_25 rfl rfl ?_
    refine z_iconst 0 dX3_readSun_26 (by decide) ?_
    refine z_bipush 20 dX3_readSun_27 (by decide) ?_
    refine y_Vi [_, _] _ kX3_103 (c_numT (hT1.num.off (by decide) (by decide))) rfl rfl dX3_readSun_29 rfl rfl (Nat.le_of_ble_eq_true rfl) (Nat.le_of_ble_eq_true rfl) ⟨Nat.zero_le _, Nat.zero_le _⟩ ?_
    refine y_putI fX3_21 dX3_readSun_32 isPar17.1 rfl ?_
    refine z_aload_n 1 dX3_readSun_35 rfl rfl ?_
    refine y_V0 [] _ kX3_107 (c_stopT ((hT1.num.off (by decide) (by decide)).num.off (by decide) (by decide))) rfl rfl dX3_readSun_36 rfl rfl (Nat.le_of_ble_eq_true rfl) (Nat.le_of_ble_eq_true rfl) ⟨Nat.zero_le _, Nat.zero_le _⟩ ?_
    exact y_vret dX3_readSun_39 rfl (by subst h1; rfl)
  refine z_aload_n 0 dX3_readSun_0 rfl rfl ?_
  refine y_getI fX3_18 dX3_readSun_1 isPar17.1 rfl ?_
  refine z_if_eq 13 dX3_readSun_4 (by decide) (fun c_1 => ?_) (fun c_1 => ?_)
  · refine z_sub [0,1,2] rfl ?_
    exact join13 _ (by simp [sr1, c_1]) (by first | exact hT | exact hT.blame)
  · refine z_aload_n 1 dX3_readSun_7 rfl rfl ?_
    refine z_iconst 3 dX3_readSun_8 (by decide) ?_
    refine z_iload_n 2 dX3_readSun_9 rfl rfl ?_
    refine y_V0 [_, _] _ kX3_99 c_blame rfl rfl dX3_readSun_10 rfl rfl (Nat.le_of_ble_eq_true rfl) (Nat.le_of_ble_eq_true rfl) ⟨Nat.zero_le _, Nat.zero_le _⟩ ?_
    refine z_sub [0,1,2] rfl ?_
    exact join13 _ (by simp [sr1, c_1]) (by first | exact hT | exact hT.blame)
set_option maxRecDepth 100000 in
set_option maxHeartbeats 4000000 in
theorem c_readYard {m : zmem} {t : Int32 → Int32} {L P : Nat} {F : Int32} (hT : TS m t L P) : E0 MX3_readYard 3 [.ref 17, .ref 1, .int F] m (sryard m t L P F) := by
  refine E0.of (by decide) (Nat.le_of_ble_eq_true rfl) ?_
  show Z _ 0 [(0, .ref 17), (1, .ref 1), (2, .int F)] _ _ _ _
  refine z_aload_n 0 dX3_readYard_0 rfl rfl ?_
  refine y_getI fX3_9 dX3_readYard_1 isPar17.1 rfl ?_
  refine z_bipush 8 dX3_readYard_4 (by decide) ?_
  refine z_icmp_lt 16 dX3_readYard_6 (by decide) (fun c_1 => ?_) (fun c_1 => ?_)
  · refine z_aload_n 0 dX3_readYard_16 rfl rfl ?_
    refine y_getR fX3_24 dX3_readYard_17 isPar17.1 rfl ?_
    refine z_aload_n 0 dX3_readYard_20 rfl rfl ?_
    refine y_getI fX3_9 dX3_readYard_21 isPar17.1 rfl ?_
    refine z_aload_n 1 dX3_readYard_24 rfl rfl ?_
    refine z_iconst 0 dX3_readYard_25 (by decide) ?_
    refine z_bipush 99 dX3_readYard_26 (by decide) ?_
    refine y_Vi [_, _] _ kX3_103 (c_numT hT) rfl rfl dX3_readYard_28 rfl rfl (Nat.le_of_ble_eq_true rfl) (Nat.le_of_ble_eq_true rfl) ⟨Nat.zero_le _, Nat.zero_le _⟩ ?_
    refine y_S0 [_, _, _] _ kX3_110 (c_put isPar17.2.1 (by decide)) dX3_readYard_31 rfl rfl (Nat.le_of_ble_eq_true rfl) (Nat.le_of_ble_eq_true rfl) ⟨Nat.zero_le _, Nat.zero_le _⟩ ?_
    refine z_aload_n 1 dX3_readYard_34 rfl rfl ?_
    refine y_V0 [] _ kX3_107 (c_stopT (hT.num.aput (by decide) (by decide))) rfl rfl dX3_readYard_35 rfl rfl (Nat.le_of_ble_eq_true rfl) (Nat.le_of_ble_eq_true rfl) ⟨Nat.zero_le _, Nat.zero_le _⟩ ?_
    refine z_aload_n 0 dX3_readYard_38 rfl rfl ?_
    refine z_dup dX3_readYard_39 rfl ?_
    refine y_getI fX3_9 dX3_readYard_40 isPar17.1 rfl ?_
    refine z_iconst 1 dX3_readYard_43 (by decide) ?_
    refine z_iadd dX3_readYard_44 ?_
    refine y_putI fX3_9 dX3_readYard_45 isPar17.1 rfl ?_
    exact y_vret dX3_readYard_48 rfl (by simp [sryard, syd1, c_1])
  · refine z_aload_n 1 dX3_readYard_9 rfl rfl ?_
    refine z_iconst 3 dX3_readYard_10 (by decide) ?_
    refine z_iload_n 2 dX3_readYard_11 rfl rfl ?_
    refine y_V0 [_, _] _ kX3_99 c_blame rfl rfl dX3_readYard_12 rfl rfl (Nat.le_of_ble_eq_true rfl) (Nat.le_of_ble_eq_true rfl) ⟨Nat.zero_le _, Nat.zero_le _⟩ ?_
    exact y_vret dX3_readYard_15 rfl (by simp [sryard, syd1, c_1])
set_option maxRecDepth 100000 in
set_option maxHeartbeats 4000000 in
theorem c_readDead {m : zmem} {t : Int32 → Int32} {L P : Nat} {F : Int32} (hT : TS m t L P) : E0 MX3_readDead 3 [.ref 17, .ref 1, .int F] m (srdead m t L P F) := by
  refine E0.of (by decide) (Nat.le_of_ble_eq_true rfl) ?_
  show Z _ 0 [(0, .ref 17), (1, .ref 1), (2, .int F)] _ _ _ _
  refine z_aload_n 0 dX3_readDead_0 rfl rfl ?_
  refine y_getI fX3_15 dX3_readDead_1 isPar17.1 rfl ?_
  refine z_bipush 7 dX3_readDead_4 (by decide) ?_
  refine z_icmp_lt 16 dX3_readDead_6 (by decide) (fun c_1 => ?_) (fun c_1 => ?_)
  · refine z_aload_n 0 dX3_readDead_16 rfl rfl ?_
    refine y_getR fX3_28 dX3_readDead_17 isPar17.1 rfl ?_
    refine z_aload_n 0 dX3_readDead_20 rfl rfl ?_
    refine y_getI fX3_15 dX3_readDead_21 isPar17.1 rfl ?_
    refine z_aload_n 1 dX3_readDead_24 rfl rfl ?_
    refine z_iconst 0 dX3_readDead_25 (by decide) ?_
    refine z_bipush 99 dX3_readDead_26 (by decide) ?_
    refine y_Vi [_, _] _ kX3_103 (c_numT hT) rfl rfl dX3_readDead_28 rfl rfl (Nat.le_of_ble_eq_true rfl) (Nat.le_of_ble_eq_true rfl) ⟨Nat.zero_le _, Nat.zero_le _⟩ ?_
    refine y_S0 [_, _, _] _ kX3_110 (c_put isPar17.2.2.1 (by decide)) dX3_readDead_31 rfl rfl (Nat.le_of_ble_eq_true rfl) (Nat.le_of_ble_eq_true rfl) ⟨Nat.zero_le _, Nat.zero_le _⟩ ?_
    refine z_aload_n 0 dX3_readDead_34 rfl rfl ?_
    refine y_getR fX3_31 dX3_readDead_35 isPar17.1 rfl ?_
    refine z_aload_n 0 dX3_readDead_38 rfl rfl ?_
    refine y_getI fX3_15 dX3_readDead_39 isPar17.1 rfl ?_
    refine z_aload_n 1 dX3_readDead_42 rfl rfl ?_
    refine z_iconst 0 dX3_readDead_43 (by decide) ?_
    refine z_sipush 999 dX3_readDead_44 (by decide) ?_
    refine y_Vi [_, _] _ kX3_103 (c_numT (hT.num.aput (by decide) (by decide))) rfl rfl dX3_readDead_47 rfl rfl (Nat.le_of_ble_eq_true rfl) (Nat.le_of_ble_eq_true rfl) ⟨Nat.zero_le _, Nat.zero_le _⟩ ?_
    refine y_S0 [_, _, _] _ kX3_110 (c_put isPar17.2.2.2.1 (by decide)) dX3_readDead_50 rfl rfl (Nat.le_of_ble_eq_true rfl) (Nat.le_of_ble_eq_true rfl) ⟨Nat.zero_le _, Nat.zero_le _⟩ ?_
    refine z_aload_n 0 dX3_readDead_53 rfl rfl ?_
    refine y_getR fX3_34 dX3_readDead_54 isPar17.1 rfl ?_
    refine z_aload_n 0 dX3_readDead_57 rfl rfl ?_
    refine y_getI fX3_15 dX3_readDead_58 isPar17.1 rfl ?_
    refine z_aload_n 1 dX3_readDead_61 rfl rfl ?_
    refine z_iconst 0 dX3_readDead_62 (by decide) ?_
    refine z_bipush 9 dX3_readDead_63 (by decide) ?_
    refine y_Vi [_, _] _ kX3_103 (c_numT ((hT.num.aput (by decide) (by decide)).num.aput (by decide) (by decide))) rfl rfl dX3_readDead_65 rfl rfl (Nat.le_of_ble_eq_true rfl) (Nat.le_of_ble_eq_true rfl) ⟨Nat.zero_le _, Nat.zero_le _⟩ ?_
    refine y_S0 [_, _, _] _ kX3_110 (c_put isPar17.2.2.2.2.1 (by decide)) dX3_readDead_68 rfl rfl (Nat.le_of_ble_eq_true rfl) (Nat.le_of_ble_eq_true rfl) ⟨Nat.zero_le _, Nat.zero_le _⟩ ?_
    refine z_aload_n 1 dX3_readDead_71 rfl rfl ?_
    refine y_V0 [] _ kX3_107 (c_stopT (((hT.num.aput (by decide) (by decide)).num.aput (by decide) (by decide)).num.aput (by decide) (by decide))) rfl rfl dX3_readDead_72 rfl rfl (Nat.le_of_ble_eq_true rfl) (Nat.le_of_ble_eq_true rfl) ⟨Nat.zero_le _, Nat.zero_le _⟩ ?_
    refine z_aload_n 0 dX3_readDead_75 rfl rfl ?_
    refine z_dup dX3_readDead_76 rfl ?_
    refine y_getI fX3_15 dX3_readDead_77 isPar17.1 rfl ?_
    refine z_iconst 1 dX3_readDead_80 (by decide) ?_
    refine z_iadd dX3_readDead_81 ?_
    refine y_putI fX3_15 dX3_readDead_82 isPar17.1 rfl ?_
    exact y_vret dX3_readDead_85 rfl (by simp [srdead, sdd1, srow, c_1])
  · refine z_aload_n 1 dX3_readDead_9 rfl rfl ?_
    refine z_iconst 3 dX3_readDead_10 (by decide) ?_
    refine z_iload_n 2 dX3_readDead_11 rfl rfl ?_
    refine y_V0 [_, _] _ kX3_99 c_blame rfl rfl dX3_readDead_12 rfl rfl (Nat.le_of_ble_eq_true rfl) (Nat.le_of_ble_eq_true rfl) ⟨Nat.zero_le _, Nat.zero_le _⟩ ?_
    exact y_vret dX3_readDead_15 rfl (by simp [srdead, sdd1, srow, c_1])
set_option maxRecDepth 100000 in
set_option maxHeartbeats 4000000 in
theorem c_readClauseP {m : zmem} {t : Int32 → Int32} {L P : Nat} (hT : TS m t L P) : E0 MX3_readClause 5 [.ref 17, .ref 1] m (sclause m t L P) := by
  refine E0.of (by decide) (Nat.le_of_ble_eq_true rfl) ?_
  show Z _ 0 [(0, .ref 17), (1, .ref 1)] _ _ _ _
  refine z_aload_n 1 dX3_readClause_0 rfl rfl ?_
  refine y_getI fX3_78 dX3_readClause_1 rfl rfl ?_
  refine z_itop (y := (Int32.ofNat P)) hT.2.2.2.1 ?_
  refine z_istore_n (lv' := [(2, .int (Int32.ofNat P)), (0, .ref 17), (1, .ref 1)]) dX3_readClause_4 rfl (Nat.le_of_ble_eq_true rfl) rfl ?_
  refine z_aload_n 2 dX3_readClause_5 rfl rfl ?_
  refine z_ldcS (i := 0) rfl dX3_readClause_6 ?_
  refine y_Vi [_] _ kX3_82 (c_wordT (i := 0) (by decide) hT) rfl rfl dX3_readClause_8 rfl rfl (Nat.le_of_ble_eq_true rfl) (Nat.le_of_ble_eq_true rfl) ⟨Nat.zero_le _, Nat.zero_le _⟩ ?_
  refine z_if_eq 23 dX3_readClause_11 (by decide) (fun c_1 => ?_) (fun c_1 => ?_)
  · refine y_mem (m1 := m) (swordm_no c_1) ?_
    refine z_aload_n 2 dX3_readClause_23 rfl rfl ?_
    refine z_ldcS (i := 1) rfl dX3_readClause_24 ?_
    refine y_Vi [_] _ kX3_82 (c_wordT (i := 1) (by decide) hT) rfl rfl dX3_readClause_26 rfl rfl (Nat.le_of_ble_eq_true rfl) (Nat.le_of_ble_eq_true rfl) ⟨Nat.zero_le _, Nat.zero_le _⟩ ?_
    refine z_if_eq 41 dX3_readClause_29 (by decide) (fun c_2 => ?_) (fun c_2 => ?_)
    · refine y_mem (m1 := m) (swordm_no c_2) ?_
      refine z_aload_n 2 dX3_readClause_41 rfl rfl ?_
      refine z_ldcS (i := 2) rfl dX3_readClause_42 ?_
      refine y_Vi [_] _ kX3_82 (c_wordT (i := 2) (by decide) hT) rfl rfl dX3_readClause_44 rfl rfl (Nat.le_of_ble_eq_true rfl) (Nat.le_of_ble_eq_true rfl) ⟨Nat.zero_le _, Nat.zero_le _⟩ ?_
      refine z_if_eq 59 dX3_readClause_47 (by decide) (fun c_3 => ?_) (fun c_3 => ?_)
      · refine y_mem (m1 := m) (swordm_no c_3) ?_
        refine z_aload_n 2 dX3_readClause_59 rfl rfl ?_
        refine z_iconst 1 dX3_readClause_60 (by decide) ?_
        refine z_iload_n 0 dX3_readClause_61 rfl rfl ?_
        refine y_V0 [_, _] _ kX3_99 c_blame rfl rfl dX3_readClause_62 rfl rfl (Nat.le_of_ble_eq_true rfl) (Nat.le_of_ble_eq_true rfl) ⟨Nat.zero_le _, Nat.zero_le _⟩ ?_
        exact y_vret dX3_readClause_65 rfl (by simp [sclause, c_1, c_2, c_3])
      · refine y_mem (m1 := spl m (swend t L P)) (swordm_yes c_3) ?_
        refine z_aload_n 1 dX3_readClause_50 rfl rfl ?_
        refine z_aload_n 2 dX3_readClause_51 rfl rfl ?_
        refine z_iload_n 0 dX3_readClause_52 rfl rfl ?_
        refine y_V0 [_, _] _ kX3_96 (c_readDead (hT.pl (swend_le (t := t) hT.2.2.2.2))) rfl isPar17.1 dX3_readClause_53 rfl rfl (Nat.le_of_ble_eq_true rfl) (Nat.le_of_ble_eq_true rfl) ⟨Nat.zero_le _, Nat.zero_le _⟩ ?_
        refine z_goto 65 dX3_readClause_56 (by decide) ?_
        exact y_vret dX3_readClause_65 rfl (by simp [sclause, c_1, c_2, c_3])
    · refine y_mem (m1 := spl m (swend t L P)) (swordm_yes c_2) ?_
      refine z_aload_n 1 dX3_readClause_32 rfl rfl ?_
      refine z_aload_n 2 dX3_readClause_33 rfl rfl ?_
      refine z_iload_n 0 dX3_readClause_34 rfl rfl ?_
      refine y_V0 [_, _] _ kX3_92 (c_readYard (hT.pl (swend_le (t := t) hT.2.2.2.2))) rfl isPar17.1 dX3_readClause_35 rfl rfl (Nat.le_of_ble_eq_true rfl) (Nat.le_of_ble_eq_true rfl) ⟨Nat.zero_le _, Nat.zero_le _⟩ ?_
      refine z_goto 65 dX3_readClause_38 (by decide) ?_
      exact y_vret dX3_readClause_65 rfl (by simp [sclause, c_1, c_2])
  · refine y_mem (m1 := spl m (swend t L P)) (swordm_yes c_1) ?_
    refine z_aload_n 1 dX3_readClause_14 rfl rfl ?_
    refine z_aload_n 2 dX3_readClause_15 rfl rfl ?_
    refine z_iload_n 0 dX3_readClause_16 rfl rfl ?_
    refine y_V0 [_, _] _ kX3_86 (c_readSun (hT.pl (swend_le (t := t) hT.2.2.2.2))) rfl isPar17.1 dX3_readClause_17 rfl rfl (Nat.le_of_ble_eq_true rfl) (Nat.le_of_ble_eq_true rfl) ⟨Nat.zero_le _, Nat.zero_le _⟩ ?_
    refine z_goto 65 dX3_readClause_20 (by decide) ?_
    exact y_vret dX3_readClause_65 rfl (by simp [sclause, c_1])
set_option maxRecDepth 100000 in
set_option maxHeartbeats 4000000 in
theorem c_readFromP {m : zmem} {t : Int32 → Int32} {L : Nat} (ht : tby m = t) (hL : m 1 1 = Int32.ofNat L) (hL4 : L ≤ 400) : E0 MX3_readFrom 6 [.ref 17, .ref 1] m (sread t L 400 (sread0 m)) := by
  refine E0.of (by decide) (Nat.le_of_ble_eq_true rfl) ?_
  show Z _ 0 [(0, .ref 17), (1, .ref 1)] _ _ _ _
  refine z_aload_n 0 dX3_readFrom_0 rfl rfl ?_
  refine z_iconst 0 dX3_readFrom_1 (by decide) ?_
  refine y_putI fX3_9 dX3_readFrom_2 isPar17.1 rfl ?_
  refine z_aload_n 0 dX3_readFrom_5 rfl rfl ?_
  refine z_iconst 0 dX3_readFrom_6 (by decide) ?_
  refine y_putI fX3_15 dX3_readFrom_7 isPar17.1 rfl ?_
  refine z_aload_n 0 dX3_readFrom_10 rfl rfl ?_
  refine z_iconst 0 dX3_readFrom_11 (by decide) ?_
  refine y_putI fX3_18 dX3_readFrom_12 isPar17.1 rfl ?_
  refine z_aload_n 0 dX3_readFrom_15 rfl rfl ?_
  refine z_iconst 0 dX3_readFrom_16 (by decide) ?_
  refine y_putI fX3_21 dX3_readFrom_17 isPar17.1 rfl ?_
  refine z_aload_n 1 dX3_readFrom_20 rfl rfl ?_
  refine y_V0 [] _ kX3_65 c_begin rfl rfl dX3_readFrom_21 rfl rfl (Nat.le_of_ble_eq_true rfl) (Nat.le_of_ble_eq_true rfl) ⟨Nat.zero_le _, Nat.zero_le _⟩ ?_
  refine z_iconst 0 dX3_readFrom_24 (by decide) ?_
  refine z_istore_n (lv' := [(2, .int 0), (0, .ref 17), (1, .ref 1)]) dX3_readFrom_25 rfl (Nat.le_of_ble_eq_true rfl) rfl ?_
  have loop26 : ∀ (n : Nat) (k : Nat) (mm : zmem), k + n = 400 → TS mm t L (spo mm) → sread t L 400 (sread0 m) = sread t L n mm → Z (zMB (Q0 (sread t L 400 (sread0 m))) 6 MX3_readFrom) 26 [(0, .ref 17), (1, .ref 1), (2, .int (Int32.ofNat k))] [] (hp mm) 0 0 := by
    intro n
    induction n with
    | zero =>
      intro k mm hk hT hr
      refine z_iload_n 2 dX3_readFrom_26 rfl rfl ?_
      refine z_sipush 400 dX3_readFrom_27 (by decide) ?_
      refine z_icmp_ge 51 dX3_readFrom_30 (by decide) (fun c_1 => ?_) (fun c_1 => ?_)
      · exact y_vret dX3_readFrom_51 rfl (by rw [hr]; simp [sread, c_1])
      · exact (dz rfl (b := 400) (N := 400) rfl (by omega) (by omega) c_1).elim
    | succ n ih26 =>
      intro k mm hk hT hr
      refine z_iload_n 2 dX3_readFrom_26 rfl rfl ?_
      refine z_sipush 400 dX3_readFrom_27 (by decide) ?_
      refine z_icmp_ge 51 dX3_readFrom_30 (by decide) (fun c_2 => ?_) (fun c_2 => ?_)
      · exact (ds rfl (b := 400) (N := 400) rfl (by omega) (by omega) c_2).elim
      · refine z_aload_n 1 dX3_readFrom_33 rfl rfl ?_
        refine y_Vi [] _ kX3_70 (c_goesT hT) rfl rfl dX3_readFrom_34 rfl rfl (Nat.le_of_ble_eq_true rfl) (Nat.le_of_ble_eq_true rfl) ⟨Nat.zero_le _, Nat.zero_le _⟩ ?_
        refine z_if_eq 51 dX3_readFrom_37 (by decide) (fun c_3 => ?_) (fun c_3 => ?_)
        · exact y_vret dX3_readFrom_51 rfl (by rw [hr]; simp [sread, c_2, c_3])
        · refine z_aload_n 0 dX3_readFrom_40 rfl rfl ?_
          refine z_aload_n 1 dX3_readFrom_41 rfl rfl ?_
          refine y_V0 [_] _ kX3_74 (c_readClauseP (hT.pl (sblk_le hT.2.2.2.2).2)) rfl isPar17.1 dX3_readFrom_42 rfl rfl (Nat.le_of_ble_eq_true rfl) (Nat.le_of_ble_eq_true rfl) ⟨Nat.zero_le _, Nat.zero_le _⟩ ?_
          obtain ⟨v_4, e_4⟩ : ∃ y : Int32, y = (Int32.ofNat k) + 1 := ⟨_, rfl⟩
          refine z_iinc (lv' := [(2, .int v_4), (0, .ref 17), (1, .ref 1)]) 2 v_4 dX3_readFrom_45 rfl (by rw [e_4]; rfl) (Nat.le_of_ble_eq_true rfl) rfl ?_
          refine z_goto 26 dX3_readFrom_48 (by decide) ?_
          obtain rfl : v_4 = Int32.ofNat (k + 1) := e_4.trans (nat_succ k)
          refine z_sub [1,2,0] rfl ?_
          exact ih26 (k + 1) _ (by omega) (sclause_TS (hT.pl (sblk_le hT.2.2.2.2).2)) (hr.trans (by simp [sread, c_2, c_3]))
  refine z_sub [1,2,0] rfl ?_
  exact loop26 (400) 0 _ (by omega) (TS.begin ((tby_eq rfl rfl).trans ht) hL hL4).self rfl
def scounts (m : zmem) (r C : Nat) (c : Int32) : Int32 := if sall (fun k => decide (¬ aat 4 (m (r + 1)) (Int32.ofNat k) = c)) C 0 then 0 else 1
def sadd0 (m : zmem) (r : Nat) (c : Int32) : zmem := aput m (r + 1) 4 (m r 1) c
def sadd (m : zmem) (r : Nat) (c : Int32) : zmem := mset (sadd0 m r c) r 1 (sadd0 m r c r 1 + 1)
def scopyC (o r : Nat) (m : zmem) : zmem := mset (scopy (o + 1) 4 (r + 1) 4 8 0 m) r 1 (scopy (o + 1) 4 (r + 1) 4 8 0 m o 1)
def sbook0 (m : zmem) (d i : Int32) : zmem := aput (aput m 48 20 (m 47 2) d) 49 20 (aput m 48 20 (m 47 2) d 47 2) i
def sbook (m : zmem) (d i : Int32) : zmem := mset (sbook0 m d i) 47 2 (sbook0 m d i 47 2 + 1)
def skind (t : Int32 → Int32) (L P : Nat) : Int32 := if ¬ swordi t L P 3 = 0 then 0 else if ¬ swordi t L P 4 = 0 then 1 else if ¬ swordi t L P 5 = 0 then 2 else if ¬ swordi t L P 6 = 0 then 3 else -1
def smk (m : zmem) (t : Int32 → Int32) (L P : Nat) : zmem := if skind t L P = -1 then m else spl m (swend t L P)
def scusc (m : zmem) (t : Int32 → Int32) (L P C : Nat) : zmem := if ¬ skind t L P = -1 then (if scounts (smk m t L P) 5 C (skind t L P) = 0 then sstop (sadd (smk m t L P) 5 (skind t L P)) t L (swend t L P) else sblame (smk m t L P) 3 (Int32.ofNat P)) else sblame (smk m t L P) 1 (Int32.ofNat P)
set_option maxRecDepth 100000 in
set_option maxHeartbeats 4000000 in
theorem c_addC {m : zmem} {r : Nat} {c : Int32} (hR : isCus r) : E0 MX1_add 1 [.ref r, .int c] m (sadd m r c) := by
  refine E0.of (by decide) (Nat.le_of_ble_eq_true rfl) ?_
  show Z _ 0 [(0, .ref r), (1, .int c)] _ _ _ _
  refine z_aload_n 0 dX1_add_0 rfl rfl ?_
  refine y_getR fX1_9 dX1_add_1 hR.1 rfl ?_
  refine z_aload_n 0 dX1_add_4 rfl rfl ?_
  refine y_getI fX1_15 dX1_add_5 hR.1 rfl ?_
  refine z_iload_n 1 dX1_add_8 rfl rfl ?_
  refine y_S0 [_, _, _] _ kX1_19 (c_put hR.2 (by decide)) dX1_add_9 rfl rfl (Nat.le_of_ble_eq_true rfl) (Nat.le_of_ble_eq_true rfl) ⟨Nat.zero_le _, Nat.zero_le _⟩ ?_
  refine z_aload_n 0 dX1_add_12 rfl rfl ?_
  refine z_dup dX1_add_13 rfl ?_
  refine y_getI fX1_15 dX1_add_14 hR.1 rfl ?_
  refine z_iconst 1 dX1_add_17 (by decide) ?_
  refine z_iadd dX1_add_18 ?_
  refine y_putI fX1_15 dX1_add_19 hR.1 rfl ?_
  exact y_vret dX1_add_22 rfl rfl
set_option maxRecDepth 100000 in
set_option maxHeartbeats 4000000 in
theorem c_copyFromC {m : zmem} {o r : Nat} (hO2 : isCus o) (hR : isCus r) : E0 MX1_copyFrom 2 [.ref r, .ref o] m (scopyC o r m) := by
  refine E0.of (by decide) (Nat.le_of_ble_eq_true rfl) ?_
  show Z _ 0 [(0, .ref r), (1, .ref o)] _ _ _ _
  refine z_aload_n 1 dX1_copyFrom_0 rfl rfl ?_
  refine y_getR fX1_9 dX1_copyFrom_1 hO2.1 rfl ?_
  refine z_aload_n 0 dX1_copyFrom_4 rfl rfl ?_
  refine y_getR fX1_9 dX1_copyFrom_5 hR.1 rfl ?_
  refine y_S0 [_, _] _ kX1_27 (c_copyRow hO2.2 (by decide) hR.2 (by decide)) dX1_copyFrom_8 rfl rfl (Nat.le_of_ble_eq_true rfl) (Nat.le_of_ble_eq_true rfl) ⟨Nat.zero_le _, Nat.zero_le _⟩ ?_
  refine z_aload_n 0 dX1_copyFrom_11 rfl rfl ?_
  refine z_aload_n 1 dX1_copyFrom_12 rfl rfl ?_
  refine y_getI fX1_15 dX1_copyFrom_13 hO2.1 rfl ?_
  refine y_putI fX1_15 dX1_copyFrom_16 hR.1 rfl ?_
  exact y_vret dX1_copyFrom_19 rfl rfl
set_option maxRecDepth 100000 in
set_option maxHeartbeats 4000000 in
theorem c_counts {m : zmem} {r C : Nat} {c : Int32} (hR : isCus r) (hC : m r 1 = Int32.ofNat C) (hC4 : C ≤ 400) : Ei MX1_counts 1 [.ref r, .int c] m (scounts m r C c) (m) := by
  refine Ei.of (by decide) (Nat.le_of_ble_eq_true rfl) ?_
  show Z _ 0 [(0, .ref r), (1, .int c)] _ _ _ _
  refine z_iconst 0 dX1_counts_0 (by decide) ?_
  refine z_istore_n (lv' := [(2, .int 0), (0, .ref r), (1, .int c)]) dX1_counts_1 rfl (Nat.le_of_ble_eq_true rfl) rfl ?_
  have loop2 : ∀ (n : Nat) (k : Nat), k + n = C → sall (fun k => decide (¬ aat 4 (m (r + 1)) (Int32.ofNat k) = c)) C 0 = sall (fun k => decide (¬ aat 4 (m (r + 1)) (Int32.ofNat k) = c)) n k → Z (zMB (Qi (scounts m r C c) (m)) 1 MX1_counts) 2 [(0, .ref r), (1, .int c), (2, .int (Int32.ofNat k))] [] (hp m) 0 0 := by
    intro n
    induction n with
    | zero =>
      intro k hk hr
      refine z_iload_n 2 dX1_counts_2 rfl rfl ?_
      refine z_aload_n 0 dX1_counts_3 rfl rfl ?_
      refine y_getI fX1_15 dX1_counts_4 hR.1 rfl ?_
      refine z_icmp_ge 30 dX1_counts_7 (by decide) (fun c_1 => ?_) (fun c_1 => ?_)
      · refine z_iconst 0 dX1_counts_30 (by decide) ?_
        exact y_zret dX1_counts_31 rfl (by simp) (by have h9 := hr; simp [sall, c_1] at h9; simp [scounts, h9]) rfl
      · exact (dz rfl hC (by omega) (by omega) c_1).elim
    | succ n ih2 =>
      intro k hk hr
      refine z_iload_n 2 dX1_counts_2 rfl rfl ?_
      refine z_aload_n 0 dX1_counts_3 rfl rfl ?_
      refine y_getI fX1_15 dX1_counts_4 hR.1 rfl ?_
      refine z_icmp_ge 30 dX1_counts_7 (by decide) (fun c_2 => ?_) (fun c_2 => ?_)
      · exact (ds rfl hC (by omega) (by omega) c_2).elim
      · refine z_aload_n 0 dX1_counts_10 rfl rfl ?_
        refine y_getR fX1_9 dX1_counts_11 hR.1 rfl ?_
        refine z_iload_n 2 dX1_counts_14 rfl rfl ?_
        refine y_Si [_, _] _ kX1_23 (c_at hR.2 (by decide)) dX1_counts_15 rfl rfl (Nat.le_of_ble_eq_true rfl) (Nat.le_of_ble_eq_true rfl) ⟨Nat.zero_le _, Nat.zero_le _⟩ ?_
        refine z_iload_n 1 dX1_counts_18 rfl rfl ?_
        refine z_icmp_ne 24 dX1_counts_19 (by decide) (fun c_3 => ?_) (fun c_3 => ?_)
        · obtain ⟨v_4, e_4⟩ : ∃ y : Int32, y = (Int32.ofNat k) + 1 := ⟨_, rfl⟩
          refine z_iinc (lv' := [(2, .int v_4), (0, .ref r), (1, .int c)]) 2 v_4 dX1_counts_24 rfl (by rw [e_4]; rfl) (Nat.le_of_ble_eq_true rfl) rfl ?_
          refine z_goto 2 dX1_counts_27 (by decide) ?_
          obtain rfl : v_4 = Int32.ofNat (k + 1) := e_4.trans (nat_succ k)
          refine z_sub [1,2,0] rfl ?_
          exact ih2 (k + 1)  (by omega) (hr.trans (by simp [sall, c_2, c_3]))
        · refine z_iconst 1 dX1_counts_22 (by decide) ?_
          exact y_zret dX1_counts_23 rfl (by simp) (by have h9 := hr; simp [sall, c_2, c_3] at h9; simp [scounts, h9]) rfl
  refine z_sub [1,2,0] rfl ?_
  exact loop2 (C) 0  (by omega) rfl
set_option maxRecDepth 100000 in
set_option maxHeartbeats 4000000 in
theorem c_addB {m : zmem} {d i : Int32} : E0 MX0_add 1 [.ref 47, .int d, .int i] m (sbook m d i) := by
  refine E0.of (by decide) (Nat.le_of_ble_eq_true rfl) ?_
  show Z _ 0 [(0, .ref 47), (1, .int d), (2, .int i)] _ _ _ _
  refine z_aload_n 0 dX0_add_0 rfl rfl ?_
  refine y_getR fX0_9 dX0_add_1 rfl rfl ?_
  refine z_aload_n 0 dX0_add_4 rfl rfl ?_
  refine y_getI fX0_18 dX0_add_5 rfl rfl ?_
  refine z_iload_n 1 dX0_add_8 rfl rfl ?_
  refine y_S0 [_, _, _] _ kX0_22 (c_put (q := 48) (n := 20) rfl (by decide)) dX0_add_9 rfl rfl (Nat.le_of_ble_eq_true rfl) (Nat.le_of_ble_eq_true rfl) ⟨Nat.zero_le _, Nat.zero_le _⟩ ?_
  refine z_aload_n 0 dX0_add_12 rfl rfl ?_
  refine y_getR fX0_15 dX0_add_13 rfl rfl ?_
  refine z_aload_n 0 dX0_add_16 rfl rfl ?_
  refine y_getI fX0_18 dX0_add_17 rfl rfl ?_
  refine z_iload_n 2 dX0_add_20 rfl rfl ?_
  refine y_S0 [_, _, _] _ kX0_22 (c_put (q := 49) (n := 20) rfl (by decide)) dX0_add_21 rfl rfl (Nat.le_of_ble_eq_true rfl) (Nat.le_of_ble_eq_true rfl) ⟨Nat.zero_le _, Nat.zero_le _⟩ ?_
  refine z_aload_n 0 dX0_add_24 rfl rfl ?_
  refine z_dup dX0_add_25 rfl ?_
  refine y_getI fX0_18 dX0_add_26 rfl rfl ?_
  refine z_iconst 1 dX0_add_29 (by decide) ?_
  refine z_iadd dX0_add_30 ?_
  refine y_putI fX0_18 dX0_add_31 rfl rfl ?_
  exact y_vret dX0_add_34 rfl rfl
set_option maxRecDepth 100000 in
set_option maxHeartbeats 4000000 in
theorem c_readClauseC {m : zmem} {t : Int32 → Int32} {L P C : Nat} (hT : TS m t L P) (hC : m 5 1 = Int32.ofNat C) (hC4 : C ≤ 400) : E0 MX1_readClause 5 [.ref 5, .ref 1] m (scusc m t L P C) := by
  refine E0.of (by decide) (Nat.le_of_ble_eq_true rfl) ?_
  show Z _ 0 [(0, .ref 5), (1, .ref 1)] _ _ _ _
  have join60 : ∀ (kk : Int32) (m1 : zmem), kk = skind t L P → m1 = smk m t L P → (¬ kk = -1 → TS m1 t L (swend t L P)) → m1 5 1 = Int32.ofNat C → Z (zMB (Q0 (scusc m t L P C)) 5 MX1_readClause) 60 [(0, .ref 5), (1, .ref 1), (2, .int (Int32.ofNat P)), (3, .int kk)] [] (hp m1) 0 0 := by
    intro kk m1 hk1 hm1 hT1 hC1
    refine z_iload_n 3 dX1_readClause_60 rfl rfl ?_
    refine z_iconst (-1) dX1_readClause_61 (by decide) ?_
    refine z_icmp_ne 74 dX1_readClause_62 (by decide) (fun c_1 => ?_) (fun c_1 => ?_)
    · refine z_aload_n 0 dX1_readClause_74 rfl rfl ?_
      refine z_iload_n 3 dX1_readClause_75 rfl rfl ?_
      refine y_Vi [_] _ kX1_63 (c_counts isCus5 hC1 hC4) rfl isCus5.1 dX1_readClause_76 rfl rfl (Nat.le_of_ble_eq_true rfl) (Nat.le_of_ble_eq_true rfl) ⟨Nat.zero_le _, Nat.zero_le _⟩ ?_
      refine z_if_eq 91 dX1_readClause_79 (by decide) (fun c_2 => ?_) (fun c_2 => ?_)
      · refine z_aload_n 0 dX1_readClause_91 rfl rfl ?_
        refine z_iload_n 3 dX1_readClause_92 rfl rfl ?_
        refine y_V0 [_] _ kX1_67 (c_addC isCus5) rfl isCus5.1 dX1_readClause_93 rfl rfl (Nat.le_of_ble_eq_true rfl) (Nat.le_of_ble_eq_true rfl) ⟨Nat.zero_le _, Nat.zero_le _⟩ ?_
        refine z_aload_n 1 dX1_readClause_96 rfl rfl ?_
        refine y_V0 [] _ kX1_71 (c_stopT (((hT1 c_1).aput (by decide) (by decide)).off (by decide) (by decide))) rfl rfl dX1_readClause_97 rfl rfl (Nat.le_of_ble_eq_true rfl) (Nat.le_of_ble_eq_true rfl) ⟨Nat.zero_le _, Nat.zero_le _⟩ ?_
        exact y_vret dX1_readClause_100 rfl (by simp [scusc, ← hk1, ← hm1, c_1, c_2])
      · refine z_aload_n 1 dX1_readClause_82 rfl rfl ?_
        refine z_iconst 3 dX1_readClause_83 (by decide) ?_
        refine z_iload_n 2 dX1_readClause_84 rfl rfl ?_
        refine y_V0 [_, _] _ kX1_59 c_blame rfl rfl dX1_readClause_85 rfl rfl (Nat.le_of_ble_eq_true rfl) (Nat.le_of_ble_eq_true rfl) ⟨Nat.zero_le _, Nat.zero_le _⟩ ?_
        refine z_goto 100 dX1_readClause_88 (by decide) ?_
        exact y_vret dX1_readClause_100 rfl (by simp [scusc, ← hk1, ← hm1, c_1, c_2])
    · refine z_aload_n 1 dX1_readClause_65 rfl rfl ?_
      refine z_iconst 1 dX1_readClause_66 (by decide) ?_
      refine z_iload_n 2 dX1_readClause_67 rfl rfl ?_
      refine y_V0 [_, _] _ kX1_59 c_blame rfl rfl dX1_readClause_68 rfl rfl (Nat.le_of_ble_eq_true rfl) (Nat.le_of_ble_eq_true rfl) ⟨Nat.zero_le _, Nat.zero_le _⟩ ?_
      refine z_goto 100 dX1_readClause_71 (by decide) ?_
      exact y_vret dX1_readClause_100 rfl (by simp [scusc, ← hk1, ← hm1, c_1])
  refine z_aload_n 1 dX1_readClause_0 rfl rfl ?_
  refine y_getI fX1_44 dX1_readClause_1 rfl rfl ?_
  refine z_itop (y := (Int32.ofNat P)) hT.2.2.2.1 ?_
  refine z_istore_n (lv' := [(2, .int (Int32.ofNat P)), (0, .ref 5), (1, .ref 1)]) dX1_readClause_4 rfl (Nat.le_of_ble_eq_true rfl) rfl ?_
  refine z_iconst (-1) dX1_readClause_5 (by decide) ?_
  refine z_istore_n (lv' := [(3, .int (-1)), (2, .int (Int32.ofNat P)), (0, .ref 5), (1, .ref 1)]) dX1_readClause_6 rfl (Nat.le_of_ble_eq_true rfl) rfl ?_
  refine z_aload_n 3 dX1_readClause_7 rfl rfl ?_
  refine z_ldcS (i := 3) rfl dX1_readClause_8 ?_
  refine y_Vi [_] _ kX1_49 (c_wordT (i := 3) (by decide) hT) rfl rfl dX1_readClause_10 rfl rfl (Nat.le_of_ble_eq_true rfl) (Nat.le_of_ble_eq_true rfl) ⟨Nat.zero_le _, Nat.zero_le _⟩ ?_
  refine z_if_eq 21 dX1_readClause_13 (by decide) (fun c_3 => ?_) (fun c_3 => ?_)
  · refine y_mem (m1 := m) (swordm_no c_3) ?_
    refine z_aload_n 3 dX1_readClause_21 rfl rfl ?_
    refine z_ldcS (i := 4) rfl dX1_readClause_22 ?_
    refine y_Vi [_] _ kX1_49 (c_wordT (i := 4) (by decide) hT) rfl rfl dX1_readClause_24 rfl rfl (Nat.le_of_ble_eq_true rfl) (Nat.le_of_ble_eq_true rfl) ⟨Nat.zero_le _, Nat.zero_le _⟩ ?_
    refine z_if_eq 35 dX1_readClause_27 (by decide) (fun c_4 => ?_) (fun c_4 => ?_)
    · refine y_mem (m1 := m) (swordm_no c_4) ?_
      refine z_aload_n 3 dX1_readClause_35 rfl rfl ?_
      refine z_ldcS (i := 5) rfl dX1_readClause_36 ?_
      refine y_Vi [_] _ kX1_49 (c_wordT (i := 5) (by decide) hT) rfl rfl dX1_readClause_38 rfl rfl (Nat.le_of_ble_eq_true rfl) (Nat.le_of_ble_eq_true rfl) ⟨Nat.zero_le _, Nat.zero_le _⟩ ?_
      refine z_if_eq 49 dX1_readClause_41 (by decide) (fun c_5 => ?_) (fun c_5 => ?_)
      · refine y_mem (m1 := m) (swordm_no c_5) ?_
        refine z_aload_n 3 dX1_readClause_49 rfl rfl ?_
        refine z_ldcS (i := 6) rfl dX1_readClause_50 ?_
        refine y_Vi [_] _ kX1_49 (c_wordT (i := 6) (by decide) hT) rfl rfl dX1_readClause_52 rfl rfl (Nat.le_of_ble_eq_true rfl) (Nat.le_of_ble_eq_true rfl) ⟨Nat.zero_le _, Nat.zero_le _⟩ ?_
        refine z_if_eq 60 dX1_readClause_55 (by decide) (fun c_6 => ?_) (fun c_6 => ?_)
        · refine y_mem (m1 := m) (swordm_no c_6) ?_
          refine z_sub [2,3,1,0] rfl ?_
          exact join60 _ _ (by simp [skind, c_3, c_4, c_5, c_6]) (by simp [smk, skind, c_3, c_4, c_5, c_6]) (by first | exact fun _ => (hT.pl (swend_le (t := t) hT.2.2.2.2)) | exact fun h => absurd rfl h) (by simpa [spl, mset] using hC)
        · refine y_mem (m1 := spl m (swend t L P)) (swordm_yes c_6) ?_
          refine z_iconst 3 dX1_readClause_58 (by decide) ?_
          refine z_istore_n (lv' := [(3, .int 3), (2, .int (Int32.ofNat P)), (0, .ref 5), (1, .ref 1)]) dX1_readClause_59 rfl (Nat.le_of_ble_eq_true rfl) rfl ?_
          refine z_sub [2,3,1,0] rfl ?_
          exact join60 _ _ (by simp [skind, c_3, c_4, c_5, c_6]) (by simp [smk, skind, c_3, c_4, c_5, c_6]) (by first | exact fun _ => (hT.pl (swend_le (t := t) hT.2.2.2.2)) | exact fun h => absurd rfl h) (by simpa [spl, mset] using hC)
      · refine y_mem (m1 := spl m (swend t L P)) (swordm_yes c_5) ?_
        refine z_iconst 2 dX1_readClause_44 (by decide) ?_
        refine z_istore_n (lv' := [(3, .int 2), (2, .int (Int32.ofNat P)), (0, .ref 5), (1, .ref 1)]) dX1_readClause_45 rfl (Nat.le_of_ble_eq_true rfl) rfl ?_
        refine z_goto 60 dX1_readClause_46 (by decide) ?_
        refine z_sub [2,3,1,0] rfl ?_
        exact join60 _ _ (by simp [skind, c_3, c_4, c_5]) (by simp [smk, skind, c_3, c_4, c_5]) (by first | exact fun _ => (hT.pl (swend_le (t := t) hT.2.2.2.2)) | exact fun h => absurd rfl h) (by simpa [spl, mset] using hC)
    · refine y_mem (m1 := spl m (swend t L P)) (swordm_yes c_4) ?_
      refine z_iconst 1 dX1_readClause_30 (by decide) ?_
      refine z_istore_n (lv' := [(3, .int 1), (2, .int (Int32.ofNat P)), (0, .ref 5), (1, .ref 1)]) dX1_readClause_31 rfl (Nat.le_of_ble_eq_true rfl) rfl ?_
      refine z_goto 60 dX1_readClause_32 (by decide) ?_
      refine z_sub [2,3,1,0] rfl ?_
      exact join60 _ _ (by simp [skind, c_3, c_4]) (by simp [smk, skind, c_3, c_4]) (by first | exact fun _ => (hT.pl (swend_le (t := t) hT.2.2.2.2)) | exact fun h => absurd rfl h) (by simpa [spl, mset] using hC)
  · refine y_mem (m1 := spl m (swend t L P)) (swordm_yes c_3) ?_
    refine z_iconst 0 dX1_readClause_16 (by decide) ?_
    refine z_istore_n (lv' := [(3, .int 0), (2, .int (Int32.ofNat P)), (0, .ref 5), (1, .ref 1)]) dX1_readClause_17 rfl (Nat.le_of_ble_eq_true rfl) rfl ?_
    refine z_goto 60 dX1_readClause_18 (by decide) ?_
    refine z_sub [2,3,1,0] rfl ?_
    exact join60 _ _ (by simp [skind, c_3]) (by simp [smk, skind, c_3]) (by first | exact fun _ => (hT.pl (swend_le (t := t) hT.2.2.2.2)) | exact fun h => absurd rfl h) (by simpa [spl, mset] using hC)
theorem scusc_ok {m : zmem} {t : Int32 → Int32} {L P C : Nat} (h : TS m t L P) (hC : m 5 1 = Int32.ofNat C) : ∃ P' C', TS (scusc m t L P C) t L P' ∧ C' ≤ C + 1 ∧ scusc m t L P C 5 1 = Int32.ofNat C' := by
  have hst : ∀ (m' : zmem) (L' P' : Nat), sstop m' t L' P' 5 1 = m' 5 1 := by
    intro m' L' P'
    unfold sstop sblame
    split
    · split <;> rfl
    · rfl
  have hbl : ∀ (m' : zmem) (a b : Int32), sblame m' a b 5 1 = m' 5 1 := by
    intro m' a b
    unfold sblame
    split <;> rfl
  have hmk : TS (smk m t L P) t L (if skind t L P = -1 then P else swend t L P) := by
    unfold smk
    split
    · exact h
    · exact h.pl (swend_le h.2.2.2.2)
  have hmc : smk m t L P 5 1 = Int32.ofNat C := by
    unfold smk
    split
    · exact hC
    · exact hC
  unfold scusc
  split
  · rename_i q
    rw [if_neg q] at hmk
    split
    · refine ⟨_, C + 1, ((hmk.aput (by decide) (by decide)).off (by decide) (by decide)).stop, Nat.le_refl _, ?_⟩
      rw [hst]
      unfold sadd sadd0
      rw [mset_eq, aput_ne (by decide), hmc, nat_succ]
    · exact ⟨_, C, hmk.blame, by omega, by rw [hbl]; exact hmc⟩
  · exact ⟨_, C, hmk.blame, by omega, by rw [hbl]; exact hmc⟩
def sco (m : zmem) : Nat := (m 5 1).toNatClampNeg
/-- clause by clause of a custom, at most n -/
def scread (t : Int32 → Int32) (L : Nat) : Nat → zmem → zmem
  | 0, m => m
  | n + 1, m => if sgo m t L (spo m) = 0 then spl m (sblk t L (spo m)) else scread t L n (scusc (spl m (sblk t L (spo m))) t L (sblk t L (spo m)) (sco m))
def scread0 (m : zmem) : zmem := sbegin (mset m 5 1 0)
theorem sco_eq {m : zmem} {C : Nat} (h : m 5 1 = Int32.ofNat C) (hC : C ≤ 400) : sco m = C := by
  unfold sco
  rw [h]
  exact Int32.toNatClampNeg_ofNat_of_lt (by omega)
theorem scusc_ok' {m : zmem} {t : Int32 → Int32} {L P C k : Nat} (h : TS m t L P) (hC : m 5 1 = Int32.ofNat C) (hk : C ≤ k) (hk4 : k < 400) : TS (scusc m t L P C) t L (spo (scusc m t L P C)) ∧ scusc m t L P C 5 1 = Int32.ofNat (sco (scusc m t L P C)) ∧ sco (scusc m t L P C) ≤ k + 1 := by
  obtain ⟨P', C', h1, h2, h3⟩ := scusc_ok h hC
  have h4 := sco_eq h3 (by omega)
  exact ⟨h1.self, by rw [h4]; exact h3, by omega⟩
set_option maxRecDepth 100000 in
set_option maxHeartbeats 4000000 in
theorem c_readFromC {m : zmem} {t : Int32 → Int32} {L : Nat} (ht : tby m = t) (hL : m 1 1 = Int32.ofNat L) (hL4 : L ≤ 400) : E0 MX1_readFrom 6 [.ref 5, .ref 1] m (scread t L 400 (scread0 m)) := by
  refine E0.of (by decide) (Nat.le_of_ble_eq_true rfl) ?_
  show Z _ 0 [(0, .ref 5), (1, .ref 1)] _ _ _ _
  refine z_aload_n 0 dX1_readFrom_0 rfl rfl ?_
  refine z_iconst 0 dX1_readFrom_1 (by decide) ?_
  refine y_putI fX1_15 dX1_readFrom_2 isCus5.1 rfl ?_
  refine z_aload_n 1 dX1_readFrom_5 rfl rfl ?_
  refine y_V0 [] _ kX1_31 c_begin rfl rfl dX1_readFrom_6 rfl rfl (Nat.le_of_ble_eq_true rfl) (Nat.le_of_ble_eq_true rfl) ⟨Nat.zero_le _, Nat.zero_le _⟩ ?_
  refine z_iconst 0 dX1_readFrom_9 (by decide) ?_
  refine z_istore_n (lv' := [(2, .int 0), (0, .ref 5), (1, .ref 1)]) dX1_readFrom_10 rfl (Nat.le_of_ble_eq_true rfl) rfl ?_
  have loop11 : ∀ (n : Nat) (k : Nat) (mm : zmem), k + n = 400 → TS mm t L (spo mm) → mm 5 1 = Int32.ofNat (sco mm) → sco mm ≤ k → scread t L 400 (scread0 m) = scread t L n mm → Z (zMB (Q0 (scread t L 400 (scread0 m))) 6 MX1_readFrom) 11 [(0, .ref 5), (1, .ref 1), (2, .int (Int32.ofNat k))] [] (hp mm) 0 0 := by
    intro n
    induction n with
    | zero =>
      intro k mm hk hT hC hCk hr
      refine z_iload_n 2 dX1_readFrom_11 rfl rfl ?_
      refine z_sipush 400 dX1_readFrom_12 (by decide) ?_
      refine z_icmp_ge 36 dX1_readFrom_15 (by decide) (fun c_1 => ?_) (fun c_1 => ?_)
      · exact y_vret dX1_readFrom_36 rfl (by rw [hr]; simp [scread, c_1])
      · exact (dz rfl (b := 400) (N := 400) rfl (by omega) (by omega) c_1).elim
    | succ n ih11 =>
      intro k mm hk hT hC hCk hr
      refine z_iload_n 2 dX1_readFrom_11 rfl rfl ?_
      refine z_sipush 400 dX1_readFrom_12 (by decide) ?_
      refine z_icmp_ge 36 dX1_readFrom_15 (by decide) (fun c_2 => ?_) (fun c_2 => ?_)
      · exact (ds rfl (b := 400) (N := 400) rfl (by omega) (by omega) c_2).elim
      · refine z_aload_n 1 dX1_readFrom_18 rfl rfl ?_
        refine y_Vi [] _ kX1_36 (c_goesT hT) rfl rfl dX1_readFrom_19 rfl rfl (Nat.le_of_ble_eq_true rfl) (Nat.le_of_ble_eq_true rfl) ⟨Nat.zero_le _, Nat.zero_le _⟩ ?_
        refine z_if_eq 36 dX1_readFrom_22 (by decide) (fun c_3 => ?_) (fun c_3 => ?_)
        · exact y_vret dX1_readFrom_36 rfl (by rw [hr]; simp [scread, c_2, c_3])
        · refine z_aload_n 0 dX1_readFrom_25 rfl rfl ?_
          refine z_aload_n 1 dX1_readFrom_26 rfl rfl ?_
          refine y_V0 [_] _ kX1_40 (c_readClauseC (hT.pl (sblk_le hT.2.2.2.2).2) hC (by omega)) rfl isCus5.1 dX1_readFrom_27 rfl rfl (Nat.le_of_ble_eq_true rfl) (Nat.le_of_ble_eq_true rfl) ⟨Nat.zero_le _, Nat.zero_le _⟩ ?_
          obtain ⟨v_4, e_4⟩ : ∃ y : Int32, y = (Int32.ofNat k) + 1 := ⟨_, rfl⟩
          refine z_iinc (lv' := [(2, .int v_4), (0, .ref 5), (1, .ref 1)]) 2 v_4 dX1_readFrom_30 rfl (by rw [e_4]; rfl) (Nat.le_of_ble_eq_true rfl) rfl ?_
          refine z_goto 11 dX1_readFrom_33 (by decide) ?_
          obtain rfl : v_4 = Int32.ofNat (k + 1) := e_4.trans (nat_succ k)
          refine z_sub [1,2,0] rfl ?_
          exact ih11 (k + 1) _ (by omega) (scusc_ok' (hT.pl (sblk_le hT.2.2.2.2).2) hC hCk (by omega)).1 (scusc_ok' (hT.pl (sblk_le hT.2.2.2.2).2) hC hCk (by omega)).2.1 (scusc_ok' (hT.pl (sblk_le hT.2.2.2.2).2) hC hCk (by omega)).2.2 (hr.trans (by simp [scread, c_2, c_3]))
  refine z_sub [1,2,0] rfl ?_
  exact loop11 (400) 0 _ (by omega) (TS.begin ((tby_eq rfl rfl).trans ht) hL hL4).self rfl (Nat.le_refl _) rfl
