/-! the reference: clauses, parish, custom -/
theorem RT.of {m m' : zmem} (h : RT m) (h12 : m' 57 12 = m 57 12) {k : Nat} (h13 : m' 57 13 = Int32.ofNat k) (hk : k ≤ rL m) : RT m' := by
  obtain ⟨hL, hL4, hP, hPL⟩ := h
  have e : rL m' = rL m := by rw [rL, h12]; rfl
  have e2 : rP m' = k := by rw [rP, h13, natc (by omega)]
  exact ⟨by rw [e, h12]; exact hL, by omega, by rw [e2]; exact h13, by omega⟩
theorem RT.same {m m' : zmem} (h : RT m) (h12 : m' 57 12 = m 57 12) (h13 : m' 57 13 = m 57 13) : RT m' := h.of h12 (h13.trans h.2.2.1) h.2.2.2
theorem RT.cell {m : zmem} (h : RT m) {q j : Nat} {v : Int32} (hq : 57 ≠ q) : RT (mset m q j v) := h.same (by rw [mset_cell _ hq]) (by rw [mset_cell _ hq])
theorem RT.fld {m : zmem} (h : RT m) {j : Nat} {v : Int32} (h1 : j ≠ 12) (h2 : j ≠ 13) : RT (mset m 57 j v) := h.same (mset_ne _ (fun q => h1 q.2.symm)) (mset_ne _ (fun q => h2 q.2.symm))
theorem RT.rat {m : zmem} (h : RT m) {k : Nat} (hk : k ≤ rL m) : RT (rat m k) := h.of (rat_ne (by decide)) (mset_eq _ _ _ _) hk
theorem rL_rat {m : zmem} {k : Nat} : rL (rat m k) = rL m := by rw [rL, rat_ne (by decide)]; rfl
theorem RT.here {m : zmem} (h : RT m) : RT (Jvm.Pilot.CLoftGravesLaw_law_r3492_ce13c6.rat m (rblk m)) := h.rat (rblk_le m h).2
theorem RT.word {m : zmem} (h : RT m) : RT (rtw m) := h.of (by rw [rtw, mset_ne _ (by decide), rat_ne (by decide), rtw0_ne m (by decide) (by decide)]) (k := rwe m) (by rw [rtw, mset_ne _ (by decide), Jvm.Pilot.CLoftGravesLaw_law_r3492_ce13c6.rat, mset_eq]) (rwe_le m h).2
theorem RT.want {m : zmem} (h : RT m) {g n w : Int32} : RT (rwant m g n w) := h.same (want_ne (by decide) (by decide)) (want_ne (by decide) (by decide))
theorem RT.tw0 {m : zmem} (h : RT m) : RT (rtw0 m) := h.here.fld (by decide) (by decide)
theorem rdig_le (u : Nat → Int32) : ∀ n k v, k ≤ (rdig u n k v).1 ∧ (rdig u n k v).1 ≤ k + n := by
  intro n
  induction n with
  | zero => intro k v; exact ⟨Nat.le_refl _, Nat.le_refl _⟩
  | succ n ih =>
    intro k v
    unfold rdig
    split
    · exact ⟨Nat.le_refl _, by simp⟩
    · have := ih (k + 1) (if v ≤ 99999 then 10 * v + u k - 48 else v)
      omega
theorem rL_tw0 (m : zmem) : rL (rtw0 m) = rL m := by rw [rL, rtw0_ne m (by decide) (by decide)]; rfl
theorem rL_want {m : zmem} {g n w : Int32} : rL (rwant m g n w) = rL m := by rw [rL, want_ne (by decide) (by decide)]; rfl
theorem RT.nm0 {m : zmem} (h : RT m) : RT (rnm0 m) := h.tw0.want
theorem RT.num {m : zmem} (h : RT m) (lo hi : Int32) : RT (rnum m lo hi).2 := by
  unfold rnum
  split
  · split
    · exact h.nm0
    · refine RT.want (h.nm0.rat ?_)
      have := rdig_le (m 66) (rL m - rblk m) (rblk m) 0
      have := rblk_le m h
      rw [rnm0, rL_want, rL_tw0]
      unfold rnmd
      omega
  · exact h
theorem want_good {m : zmem} {g n w : Int32} (h : ¬ rwantr m g n w = 0) (hn : ¬ n = 0) : ¬ g = 0 := by
  intro e
  apply h
  unfold rwantr rwant
  by_cases h2 : m 57 16 = 0
  · have h3 : mset (mset m 57 16 n) 57 17 w 57 16 = n := by rw [mset_ne _ (by decide), mset_eq]
    simp [e, h2, h3, hn]
  · simp [e, h2]
theorem ite_i (p : zmem → Prop) {c : Prop} [Decidable c] {a b : zmem} (ha : c → p a) (hb : ¬ c → p b) : p (if c then a else b) := by
  by_cases h : c
  · rw [if_pos h]; exact ha h
  · rw [if_neg h]; exact hb h
theorem RT.fin {m : zmem} (h : RT m) : RT (rend m) := by
  unfold rend
  refine ite_i RT (fun _ => h) (fun _ => ?_)
  · refine ite_i RT (fun _ => h.here.want) (fun h2 => ?_)
    · skip
      have h3 : ¬ (if rhr m = 59 then (1 : Int32) else 0) = 0 := want_good h2 (by decide)
      have h4 : rhr m = 59 := by
        apply Classical.byContradiction
        intro q
        exact h3 (if_neg q)
      have hb := rblk_le m h
      have hl : rblk m < rL m := by
        apply Classical.byContradiction
        intro q
        rw [rhr, if_pos ((nat_le (by have := h.2.1; omega) (by have := h.2.1; omega)).mpr (by omega))] at h4
        exact absurd h4 (by decide)
      refine h.of (by rw [mset_ne _ (by decide), rend0, want_ne (by decide) (by decide), rat_ne (by decide)]) (k := rblk m + 1) ?_ hl
      rw [mset_eq, rend0, want_ne (by decide) (by decide), Jvm.Pilot.CLoftGravesLaw_law_r3492_ce13c6.rat, mset_eq, nat_succ]
theorem num_cell {m : zmem} {lo hi : Int32} {q : Nat} (h : q ≠ 57) : (rnum m lo hi).2 q = m q := by
  unfold rnum
  split
  · split
    · exact rnm0_cell m h
    · exact (want_cell h).trans ((rat_cell h).trans (rnm0_cell m h))
  · rfl
theorem tw_cell {m : zmem} {q : Nat} (h : q ≠ 57) : rtw m q = m q := by rw [rtw, mset_cell _ h, rat_cell h, rtw0_cell m h]
theorem end_cell {m : zmem} {q : Nat} (h : q ≠ 57) : rend m q = m q := by
  unfold rend
  refine ite_i (fun x => x q = m q) (fun _ => rfl) (fun _ => ?_)
  exact ite_i (fun x => x q = m q) (fun _ => (want_cell h).trans (rat_cell h)) (fun _ => (mset_cell _ h).trans ((want_cell h).trans (rat_cell h)))
def rws (m : zmem) (N : Nat) (a b c d e : Int32) : Int32 := risw (m 66) (m 57 14).toNatClampNeg a b c d e N 0 (if m 57 15 = Int32.ofNat N then 1 else 0)
theorem rws01 {m : zmem} {N : Nat} {a b c d e : Int32} : rws m N a b c d e = 0 ∨ rws m N a b c d e = 1 := risw01 N 0 _ (by split <;> simp)
theorem tw_first (m : zmem) : rtw m 57 14 = Int32.ofNat (rblk m) := by rw [rtw, mset_ne _ (by decide), rat_ne (by decide), rtw0_first]
theorem tw_len (m : zmem) : rtw m 57 15 = Int32.ofNat (rwe m - rblk m) := mset_eq _ _ _ _
theorem c7_isw1 {m m1 : zmem} {N : Nat} {a b c d e : Int32} (hT : RT m) (h1 : m1 = rtw m) (hN : N ≤ 5 := by decide) : Ei MX7_isWord 0 [.ref 57, .int (Int32.ofNat N), .int a, .int b, .int c, .int d, .int e] m1 (rws m1 N a b c d e) m1 := by
  subst h1
  have hb := rblk_le m hT
  have hw := rwe_le m hT
  have h4 := hT.2.1
  refine c7_isw (Ln := rwe m - rblk m) ?_ (tw_len m) ?_ hN
  · rw [tw_first, natc (by omega)]
  · rw [tw_first, natc (by omega)]; omega
def rcsun1 (m : zmem) : zmem := rwant m (if ¬ m 57 18 = 0 then 0 else 1) 3 (m 57 14)
def rsn (m : zmem) (j : Nat) (lo hi : Int32) : zmem := mset (rnum m lo hi).2 57 j (rnum m lo hi).1
def rcsun (m : zmem) : zmem := rsn (rsn (mset m 57 18 1) 19 1 20) 20 0 20
def rcyd1 (m : zmem) : zmem := rwant m (if 8 ≤ m 64 2 then 0 else 1) 3 (m 57 14)
def rdn (m : zmem) (q d : Nat) (hi : Int32) : zmem := mset (rnum m 0 hi).2 q d (rnum m 0 hi).1
def rinc (m : zmem) (j : Nat) : zmem := mset m 64 j (m 64 j + 1)
def ryd (m : zmem) : zmem := rinc (rdn m 60 (8 + (m 64 2).toNatClampNeg) 99) 2
def rcdd0 (m : zmem) : zmem := rwant m (rws m 4 100 101 97 100 0) 1 (m 57 14)
def rcdd1 (m : zmem) (F : Int32) : zmem := rwant m (if 7 ≤ m 64 3 then 0 else 1) 3 F
def rdd (m : zmem) : zmem := rinc (rdn (rdn (rdn m 61 (8 + (m 64 3).toNatClampNeg) 99) 62 (8 + (m 64 3).toNatClampNeg) 999) 63 (8 + (m 64 3).toNatClampNeg) 9) 3
def rcl1 (m : zmem) : zmem :=
  if rws m 3 115 117 110 0 0 = 0 then
    (if rws m 4 121 97 114 100 0 = 0 then
      (if rwantr m (rws m 4 100 101 97 100 0) 1 (m 57 14) = 0 then rcdd0 m
       else if rwantr (rcdd0 m) (if 7 ≤ rcdd0 m 64 3 then 0 else 1) 3 (m 57 14) = 0 then rcdd1 (rcdd0 m) (m 57 14) else rdd (rcdd1 (rcdd0 m) (m 57 14)))
     else if rwantr m (if 8 ≤ m 64 2 then 0 else 1) 3 (m 57 14) = 0 then rcyd1 m else ryd (rcyd1 m))
  else if rwantr m (if ¬ m 57 18 = 0 then 0 else 1) 3 (m 57 14) = 0 then rcsun1 m else rcsun (rcsun1 m)
def rcl (m : zmem) : zmem := rend (rcl1 (rtw m))
def RM (m : zmem) : Prop := RT m ∧ vp_in (m 64 2) 9 ∧ vp_in (m 64 3) 8
theorem vp_low {x : Int32} {n : Nat} (hn : n < 100) (h : vp_in x (n + 1)) (g : ¬ Int32.ofNat n ≤ x) : vp_in x n := by
  have e := vp_nn h
  have l := vl h
  generalize x.toNatClampNeg = k at e l
  subst e
  rw [nat_le (by omega) (by omega)] at g
  exact vN' (by omega) (by omega)
theorem vp_inc {x : Int32} {n : Nat} (hn : n < 100) (h : vp_in x n) : vp_in (x + 1) (n + 1) := by
  have e := vp_nn h
  have l := vl h
  generalize x.toNatClampNeg = k at e l
  subst e
  rw [nat_succ]
  exact vN' (by omega) (by omega)
theorem RT.sn {m : zmem} (h : RT m) {j : Nat} {lo hi : Int32} (h1 : j ≠ 12) (h2 : j ≠ 13) : RT (rsn m j lo hi) := (h.num lo hi).fld h1 h2
theorem RT.dn {m : zmem} (h : RT m) {q d : Nat} {hi : Int32} (hq : 57 ≠ q) : RT (rdn m q d hi) := (h.num 0 hi).cell hq
theorem RT.inc {m : zmem} (h : RT m) {j : Nat} : RT (rinc m j) := h.cell (by decide)
theorem dn_64 {m : zmem} {q d : Nat} {hi : Int32} (hq : 64 ≠ q) : rdn m q d hi 64 = m 64 := by rw [rdn, mset_cell _ hq, num_cell (by decide)]
theorem sn_64 {m : zmem} {j : Nat} {lo hi : Int32} : rsn m j lo hi 64 = m 64 := by rw [rsn, mset_cell _ (by decide), num_cell (by decide)]
theorem RM.sun {m : zmem} (h : RM m) : RM (rcsun m) := ⟨((h.1.fld (by decide) (by decide)).sn (by decide) (by decide)).sn (by decide) (by decide), by rw [rcsun, sn_64, sn_64, mset_cell _ (by decide)]; exact h.2⟩
theorem RM.want {m : zmem} (h : RM m) {g n w : Int32} : RM (rwant m g n w) := ⟨h.1.want, by rw [want_cell (by decide)]; exact h.2⟩
theorem RM.yd {m : zmem} (h : RM m) (g : vp_in (m 64 2) 8) : RM (ryd m) := by
  refine ⟨(h.1.dn (by decide)).inc, ?_, ?_⟩
  · rw [ryd, rinc, mset_eq, dn_64 (by decide)]; exact vp_inc (by decide) g
  · rw [ryd, rinc, mset_ne _ (by decide), dn_64 (by decide)]; exact h.2.2
theorem RM.dd {m : zmem} (h : RM m) (g : vp_in (m 64 3) 7) : RM (rdd m) := by
  refine ⟨(((h.1.dn (by decide)).dn (by decide)).dn (by decide)).inc, ?_, ?_⟩
  · rw [rdd, rinc, mset_ne _ (by decide), dn_64 (by decide), dn_64 (by decide), dn_64 (by decide)]; exact h.2.1
  · rw [rdd, rinc, mset_eq, dn_64 (by decide), dn_64 (by decide), dn_64 (by decide)]; exact vp_inc (by decide) g
theorem ydg {m m0 : zmem} {F : Int32} (h : RM m0) (e : m0 64 = m 64) (g : ¬ rwantr m0 (if 8 ≤ m 64 2 then 0 else 1) 3 F = 0) : vp_in (m 64 2) 8 := vp_low (by decide) (e ▸ h.2.1) (fun q => want_good g (by decide) (if_pos q))
theorem ddg {m m0 : zmem} {F : Int32} (h : RM m0) (e : m0 64 = m 64) (g : ¬ rwantr m0 (if 7 ≤ m 64 3 then 0 else 1) 3 F = 0) : vp_in (m 64 3) 7 := vp_low (by decide) (e ▸ h.2.2) (fun q => want_good g (by decide) (if_pos q))
theorem RM.cl1 {m : zmem} (h : RM m) : RM (rcl1 m) := by
  unfold rcl1
  refine ite_i RM (fun _ => ?_) (fun _ => ite_i RM (fun _ => h.want) (fun _ => RM.sun h.want))
  refine ite_i RM (fun _ => ?_) (fun _ => ite_i RM (fun _ => h.want) (fun g => RM.yd h.want (by rw [rcyd1, want_cell (by decide)]; exact ydg h rfl g)))
  refine ite_i RM (fun _ => h.want) (fun _ => ?_)
  exact ite_i RM (fun _ => RM.want h.want) (fun g => RM.dd (RM.want h.want) (by rw [rcdd1, want_cell (by decide)]; exact ddg h.want rfl g))
theorem RM.word {m : zmem} (h : RM m) : RM (rtw m) := ⟨h.1.word, by rw [tw_cell (by decide)]; exact h.2⟩
theorem RM.fin {m : zmem} (h : RM m) : RM (rend m) := ⟨h.1.fin, by rw [end_cell (by decide)]; exact h.2⟩
theorem RM.cl {m : zmem} (h : RM m) : RM (rcl m) := h.word.cl1.fin
theorem RM.here {m : zmem} (h : RM m) : RM (Jvm.Pilot.CLoftGravesLaw_law_r3492_ce13c6.rat m (rblk m)) := ⟨h.1.here, by rw [rat_cell (by decide)]; exact h.2⟩
set_option maxRecDepth 100000 in
set_option maxHeartbeats 4000000 in
theorem c7_clause {m : zmem} (hM : RM m) : E0 MX7_takeClause 3 [.ref 57] m (rcl m) := by
  refine E0.of (by decide) (Nat.le_of_ble_eq_true rfl) ?_
  show Z _ 0 [(0, .ref 57)] _ _ _ _
  refine z_aload_n 0 dX7_takeClause_0 rfl rfl ?_
  refine y_V0 [] _ kX7_117 (c7_word hM.1) rfl rfl dX7_takeClause_1 rfl rfl (Nat.le_of_ble_eq_true rfl) (Nat.le_of_ble_eq_true rfl) ⟨Nat.zero_le _, Nat.zero_le _⟩ ?_
  obtain ⟨m1, hm1⟩ : ∃ x, x = rtw m := ⟨_, rfl⟩
  refine y_mem (m1 := m1) (hm1.trans rfl).symm ?_
  have h1 : RM m1 := hm1 ▸ hM.word
  refine z_aload_n 0 dX7_takeClause_4 rfl rfl ?_
  have join260 : ∀ (mm : zmem), mm = rcl1 m1 → Z (zMB (Q0 (rcl m)) 3 MX7_takeClause) 260 [(0, .ref 57)] [] (hp mm) 0 0 := by
    intro mm he
    refine z_aload_n 0 dX7_takeClause_260 rfl rfl ?_
    refine y_V0 [] _ kX7_138 (c7_end (show RM mm from he ▸ h1.cl1).1) rfl rfl dX7_takeClause_261 rfl rfl (Nat.le_of_ble_eq_true rfl) (Nat.le_of_ble_eq_true rfl) ⟨Nat.zero_le _, Nat.zero_le _⟩ ?_
    exact y_vret dX7_takeClause_264 rfl (by rw [he, hm1]; rfl)
  refine y_getI fX7_98 dX7_takeClause_5 rfl rfl ?_
  refine z_itop (y := (m1 57 14)) rfl ?_
  refine z_istore_n (lv' := [(1, .int (m1 57 14)), (0, .ref 57)]) dX7_takeClause_8 rfl (Nat.le_of_ble_eq_true rfl) rfl ?_
  refine z_aload_n 1 dX7_takeClause_9 rfl rfl ?_
  refine z_iconst 3 dX7_takeClause_10 (by decide) ?_
  refine z_bipush 115 dX7_takeClause_11 (by decide) ?_
  refine z_bipush 117 dX7_takeClause_13 (by decide) ?_
  refine z_bipush 110 dX7_takeClause_15 (by decide) ?_
  refine z_iconst 0 dX7_takeClause_17 (by decide) ?_
  refine z_iconst 0 dX7_takeClause_18 (by decide) ?_
  refine y_Vi [_, _, _, _, _, _] _ kX7_120 (c7_isw1 (N := 3) hM.1 hm1) rfl rfl dX7_takeClause_19 rfl rfl (Nat.le_of_ble_eq_true rfl) (Nat.le_of_ble_eq_true rfl) ⟨Nat.zero_le _, Nat.zero_le _⟩ ?_
  refine z_if_eq 76 dX7_takeClause_22 (by decide) (fun c_1 => ?_) (fun c_1 => ?_)
  · refine z_aload_n 1 dX7_takeClause_76 rfl rfl ?_
    refine z_iconst 4 dX7_takeClause_77 (by decide) ?_
    refine z_bipush 121 dX7_takeClause_78 (by decide) ?_
    refine z_bipush 97 dX7_takeClause_80 (by decide) ?_
    refine z_bipush 114 dX7_takeClause_82 (by decide) ?_
    refine z_bipush 100 dX7_takeClause_84 (by decide) ?_
    refine z_iconst 0 dX7_takeClause_86 (by decide) ?_
    refine y_Vi [_, _, _, _, _, _] _ kX7_120 (c7_isw1 (N := 4) hM.1 hm1) rfl rfl dX7_takeClause_87 rfl rfl (Nat.le_of_ble_eq_true rfl) (Nat.le_of_ble_eq_true rfl) ⟨Nat.zero_le _, Nat.zero_le _⟩ ?_
    refine z_if_eq 152 dX7_takeClause_90 (by decide) (fun c_2 => ?_) (fun c_2 => ?_)
    · refine z_aload_n 1 dX7_takeClause_152 rfl rfl ?_
      refine z_aload_n 1 dX7_takeClause_153 rfl rfl ?_
      refine z_iconst 4 dX7_takeClause_154 (by decide) ?_
      refine z_bipush 100 dX7_takeClause_155 (by decide) ?_
      refine z_bipush 101 dX7_takeClause_157 (by decide) ?_
      refine z_bipush 97 dX7_takeClause_159 (by decide) ?_
      refine z_bipush 100 dX7_takeClause_161 (by decide) ?_
      refine z_iconst 0 dX7_takeClause_163 (by decide) ?_
      refine y_Vi [_, _, _, _, _, _] _ kX7_120 (c7_isw1 (N := 4) hM.1 hm1) rfl rfl dX7_takeClause_164 rfl rfl (Nat.le_of_ble_eq_true rfl) (Nat.le_of_ble_eq_true rfl) ⟨Nat.zero_le _, Nat.zero_le _⟩ ?_
      refine z_iconst 1 dX7_takeClause_167 (by decide) ?_
      refine z_iload_n 0 dX7_takeClause_168 rfl rfl ?_
      refine y_Vi [_, _, _] _ kX7_112 c7_want rfl rfl dX7_takeClause_169 rfl rfl (Nat.le_of_ble_eq_true rfl) (Nat.le_of_ble_eq_true rfl) ⟨Nat.zero_le _, Nat.zero_le _⟩ ?_
      refine z_if_eq 260 dX7_takeClause_172 (by decide) (fun c_3 => ?_) (fun c_3 => ?_)
      · refine z_sub [1] rfl ?_
        exact join260 _ (by first | (simp only [rcl1, rcsun1, rcyd1, c_1, c_2, c_3, ← hg, eq_self, if_true, not_true_eq_false, not_false_eq_true, if_false, reduceIte]; done) | (simp only [rcl1, c_1, c_2, c_3, ← hg, eq_self, if_true, not_true_eq_false, not_false_eq_true, if_false, reduceIte]; rw [hm2]; done) | (simp only [rcl1, rcdd0, c_1, c_2, c_3, eq_self, if_true, not_true_eq_false, not_false_eq_true, if_false, reduceIte]; done) | (simp only [rcl1, ← hm2, ← hg, c_1, c_2, c_3, eq_self, if_true, not_true_eq_false, not_false_eq_true, if_false, reduceIte, rcdd1]; done) | (simp only [rcl1, ← hm2, ← hg, c_1, c_2, c_3, eq_self, if_true, not_true_eq_false, not_false_eq_true, if_false, reduceIte]; rw [hm3]; rfl))
      · obtain ⟨m2, hm2⟩ : ∃ x, x = rcdd0 m1 := ⟨_, rfl⟩
        refine y_mem (m1 := m2) (hm2.trans rfl).symm ?_
        have h2 : RM m2 := hm2 ▸ h1.want
        refine z_aload_n 1 dX7_takeClause_175 rfl rfl ?_
        have join192 : ∀ (g : Int32), g = (if 7 ≤ m2 64 3 then 0 else 1) → Z (zMB (Q0 (rcl m)) 3 MX7_takeClause) 192 [(0, .ref 57), (1, .int (m1 57 14))] [.int g, .ref 57] (hp m2) 0 0 := by
          intro g hg
          refine z_iconst 3 dX7_takeClause_192 (by decide) ?_
          refine z_iload_n 1 dX7_takeClause_193 rfl rfl ?_
          refine y_Vi [_, _, _] _ kX7_112 c7_want rfl rfl dX7_takeClause_194 rfl rfl (Nat.le_of_ble_eq_true rfl) (Nat.le_of_ble_eq_true rfl) ⟨Nat.zero_le _, Nat.zero_le _⟩ ?_
          refine z_if_eq 260 dX7_takeClause_197 (by decide) (fun c_4 => ?_) (fun c_4 => ?_)
          · refine z_sub [0] rfl ?_
            exact join260 _ (by first | (simp only [rcl1, rcsun1, rcyd1, c_1, c_2, c_3, c_4, ← hg, eq_self, if_true, not_true_eq_false, not_false_eq_true, if_false, reduceIte]; done) | (simp only [rcl1, c_1, c_2, c_3, c_4, ← hg, eq_self, if_true, not_true_eq_false, not_false_eq_true, if_false, reduceIte]; rw [hm2]; done) | (simp only [rcl1, rcdd0, c_1, c_2, c_3, c_4, eq_self, if_true, not_true_eq_false, not_false_eq_true, if_false, reduceIte]; done) | (simp only [rcl1, ← hm2, ← hg, c_1, c_2, c_3, c_4, eq_self, if_true, not_true_eq_false, not_false_eq_true, if_false, reduceIte, rcdd1]; done) | (simp only [rcl1, ← hm2, ← hg, c_1, c_2, c_3, c_4, eq_self, if_true, not_true_eq_false, not_false_eq_true, if_false, reduceIte]; rw [hm3]; rfl))
          · obtain ⟨m3, hm3⟩ : ∃ x, x = rcdd1 m2 (m1 57 14) := ⟨_, rfl⟩
            refine y_mem (m1 := m3) (hm3.trans (by rw [rcdd1, hg])).symm ?_
            have h3 : RM m3 := hm3 ▸ h2.want
            have hv3 : vp_in (m3 64 3) 7 := by rw [hm3, rcdd1, want_cell (by decide)]; exact ddg h2 rfl (hg ▸ c_4)
            refine z_bipush 8 dX7_takeClause_200 (by decide) ?_
            refine z_aload_n 0 dX7_takeClause_202 rfl rfl ?_
            refine y_getR fX7_36 dX7_takeClause_203 rfl rfl ?_
            refine z_iconst 3 dX7_takeClause_206 (by decide) ?_
            refine y_ald (N := 3) dX7_takeClause_207 rfl rfl (by decide) ?_
            refine z_itop (y := (m3 64 3)) rfl ?_
            refine z_iadd dX7_takeClause_208 ?_
            refine z_itop (y := (8 + (m3 64 3))) rfl ?_
            refine z_istore_n (lv' := [(2, .int (8 + (m3 64 3))), (0, .ref 57), (1, .int (m1 57 14))]) dX7_takeClause_209 rfl (Nat.le_of_ble_eq_true rfl) rfl ?_
            refine z_aload_n 1 dX7_takeClause_210 rfl rfl ?_
            refine y_getR fX7_27 dX7_takeClause_211 rfl rfl ?_
            refine z_iload_n 0 dX7_takeClause_214 rfl rfl ?_
            refine z_aload_n 1 dX7_takeClause_215 rfl rfl ?_
            refine z_iconst 0 dX7_takeClause_216 (by decide) ?_
            refine z_bipush 99 dX7_takeClause_217 (by decide) ?_
            refine y_Vi [_, _] _ kX7_128 (c7_num h3.1) rfl rfl dX7_takeClause_219 rfl rfl (Nat.le_of_ble_eq_true rfl) (Nat.le_of_ble_eq_true rfl) ⟨Nat.zero_le _, Nat.zero_le _⟩ ?_
            refine y_ast (N := 8 + (m3 64 3).toNatClampNeg) dX7_takeClause_222 rfl (wiN (lt_vp hv3 (by decide))) (wn (lt_vp hv3 (by decide)) (by decide)) ?_
            refine z_aload_n 1 dX7_takeClause_223 rfl rfl ?_
            refine y_getR fX7_30 dX7_takeClause_224 rfl rfl ?_
            refine z_iload_n 0 dX7_takeClause_227 rfl rfl ?_
            refine z_aload_n 1 dX7_takeClause_228 rfl rfl ?_
            refine z_iconst 0 dX7_takeClause_229 (by decide) ?_
            refine z_sipush 999 dX7_takeClause_230 (by decide) ?_
            refine y_Vi [_, _] _ kX7_128 (c7_num (h3.1.dn (by decide))) rfl rfl dX7_takeClause_233 rfl rfl (Nat.le_of_ble_eq_true rfl) (Nat.le_of_ble_eq_true rfl) ⟨Nat.zero_le _, Nat.zero_le _⟩ ?_
            refine y_ast (N := 8 + (m3 64 3).toNatClampNeg) dX7_takeClause_236 rfl (wiN (lt_vp hv3 (by decide))) (wn (lt_vp hv3 (by decide)) (by decide)) ?_
            refine z_aload_n 1 dX7_takeClause_237 rfl rfl ?_
            refine y_getR fX7_33 dX7_takeClause_238 rfl rfl ?_
            refine z_iload_n 0 dX7_takeClause_241 rfl rfl ?_
            refine z_aload_n 1 dX7_takeClause_242 rfl rfl ?_
            refine z_iconst 0 dX7_takeClause_243 (by decide) ?_
            refine z_bipush 9 dX7_takeClause_244 (by decide) ?_
            refine y_Vi [_, _] _ kX7_128 (c7_num ((h3.1.dn (by decide)).dn (by decide))) rfl rfl dX7_takeClause_246 rfl rfl (Nat.le_of_ble_eq_true rfl) (Nat.le_of_ble_eq_true rfl) ⟨Nat.zero_le _, Nat.zero_le _⟩ ?_
            refine y_ast (N := 8 + (m3 64 3).toNatClampNeg) dX7_takeClause_249 rfl (wiN (lt_vp hv3 (by decide))) (wn (lt_vp hv3 (by decide)) (by decide)) ?_
            refine z_aload_n 1 dX7_takeClause_250 rfl rfl ?_
            refine y_getR fX7_36 dX7_takeClause_251 rfl rfl ?_
            refine z_iconst 3 dX7_takeClause_254 (by decide) ?_
            refine z_dup2 dX7_takeClause_255 rfl rfl ?_
            refine y_ald (N := 3) dX7_takeClause_256 rfl rfl (by decide) ?_
            refine z_iconst 1 dX7_takeClause_257 (by decide) ?_
            refine z_iadd dX7_takeClause_258 ?_
            refine y_ast (N := 3) dX7_takeClause_259 rfl rfl (by decide) ?_
            refine z_sub [1] rfl ?_
            exact join260 _ (by first | (simp only [rcl1, rcsun1, rcyd1, c_1, c_2, c_3, c_4, ← hg, eq_self, if_true, not_true_eq_false, not_false_eq_true, if_false, reduceIte]; done) | (simp only [rcl1, c_1, c_2, c_3, c_4, ← hg, eq_self, if_true, not_true_eq_false, not_false_eq_true, if_false, reduceIte]; rw [hm2]; done) | (simp only [rcl1, rcdd0, c_1, c_2, c_3, c_4, eq_self, if_true, not_true_eq_false, not_false_eq_true, if_false, reduceIte]; done) | (simp only [rcl1, ← hm2, ← hg, c_1, c_2, c_3, c_4, eq_self, if_true, not_true_eq_false, not_false_eq_true, if_false, reduceIte, rcdd1]; done) | (simp only [rcl1, ← hm2, ← hg, c_1, c_2, c_3, c_4, eq_self, if_true, not_true_eq_false, not_false_eq_true, if_false, reduceIte]; rw [hm3]; rfl))
        refine z_aload_n 1 dX7_takeClause_176 rfl rfl ?_
        refine y_getR fX7_36 dX7_takeClause_177 rfl rfl ?_
        refine z_iconst 3 dX7_takeClause_180 (by decide) ?_
        refine y_ald (N := 3) dX7_takeClause_181 rfl rfl (by decide) ?_
        refine z_bipush 7 dX7_takeClause_182 (by decide) ?_
        refine z_icmp_ge 191 dX7_takeClause_184 (by decide) (fun c_5 => ?_) (fun c_5 => ?_)
        · refine z_iconst 0 dX7_takeClause_191 (by decide) ?_
          refine z_sub [1,0] rfl ?_
          exact join192 _ (by simp [c_1, c_2, c_3, c_5])
        · refine z_iconst 1 dX7_takeClause_187 (by decide) ?_
          refine z_goto 192 dX7_takeClause_188 (by decide) ?_
          refine z_sub [1,0] rfl ?_
          exact join192 _ (by simp [c_1, c_2, c_3, c_5])
    · have join110 : ∀ (g : Int32), g = (if 8 ≤ m1 64 2 then 0 else 1) → Z (zMB (Q0 (rcl m)) 3 MX7_takeClause) 110 [(0, .ref 57), (1, .int (m1 57 14))] [.int g, .ref 57] (hp m1) 0 0 := by
        intro g hg
        refine z_iconst 3 dX7_takeClause_110 (by decide) ?_
        refine z_iload_n 1 dX7_takeClause_111 rfl rfl ?_
        refine y_Vi [_, _, _] _ kX7_112 c7_want rfl rfl dX7_takeClause_112 rfl rfl (Nat.le_of_ble_eq_true rfl) (Nat.le_of_ble_eq_true rfl) ⟨Nat.zero_le _, Nat.zero_le _⟩ ?_
        refine z_if_eq 260 dX7_takeClause_115 (by decide) (fun c_6 => ?_) (fun c_6 => ?_)
        · refine z_sub [0] rfl ?_
          exact join260 _ (by first | (simp only [rcl1, rcsun1, rcyd1, c_1, c_2, c_6, ← hg, eq_self, if_true, not_true_eq_false, not_false_eq_true, if_false, reduceIte]; done) | (simp only [rcl1, c_1, c_2, c_6, ← hg, eq_self, if_true, not_true_eq_false, not_false_eq_true, if_false, reduceIte]; rw [hm2]; done) | (simp only [rcl1, rcdd0, c_1, c_2, c_6, eq_self, if_true, not_true_eq_false, not_false_eq_true, if_false, reduceIte]; done) | (simp only [rcl1, ← hm2, ← hg, c_1, c_2, c_6, eq_self, if_true, not_true_eq_false, not_false_eq_true, if_false, reduceIte, rcdd1]; done) | (simp only [rcl1, ← hm2, ← hg, c_1, c_2, c_6, eq_self, if_true, not_true_eq_false, not_false_eq_true, if_false, reduceIte]; rw [hm3]; rfl))
        · obtain ⟨m2, hm2⟩ : ∃ x, x = rcyd1 m1 := ⟨_, rfl⟩
          refine y_mem (m1 := m2) (hm2.trans (by rw [rcyd1, hg])).symm ?_
          have h2 : RM m2 := hm2 ▸ h1.want
          have hv2 : vp_in (m2 64 2) 8 := by rw [hm2, rcyd1, want_cell (by decide)]; exact ydg h1 rfl (hg ▸ c_6)
          refine z_aload_n 0 dX7_takeClause_118 rfl rfl ?_
          refine y_getR fX7_24 dX7_takeClause_119 rfl rfl ?_
          refine z_bipush 8 dX7_takeClause_122 (by decide) ?_
          refine z_aload_n 0 dX7_takeClause_124 rfl rfl ?_
          refine y_getR fX7_36 dX7_takeClause_125 rfl rfl ?_
          refine z_iconst 2 dX7_takeClause_128 (by decide) ?_
          refine y_ald (N := 2) dX7_takeClause_129 rfl rfl (by decide) ?_
          refine z_itop (y := (m2 64 2)) rfl ?_
          refine z_iadd dX7_takeClause_130 ?_
          refine z_aload_n 0 dX7_takeClause_131 rfl rfl ?_
          refine z_iconst 0 dX7_takeClause_132 (by decide) ?_
          refine z_bipush 99 dX7_takeClause_133 (by decide) ?_
          refine y_Vi [_, _] _ kX7_128 (c7_num h2.1) rfl rfl dX7_takeClause_135 rfl rfl (Nat.le_of_ble_eq_true rfl) (Nat.le_of_ble_eq_true rfl) ⟨Nat.zero_le _, Nat.zero_le _⟩ ?_
          refine y_ast (N := 8 + (m2 64 2).toNatClampNeg) dX7_takeClause_138 rfl (wiN hv2) (wn hv2 (by decide)) ?_
          refine z_aload_n 0 dX7_takeClause_139 rfl rfl ?_
          refine y_getR fX7_36 dX7_takeClause_140 rfl rfl ?_
          refine z_iconst 2 dX7_takeClause_143 (by decide) ?_
          refine z_dup2 dX7_takeClause_144 rfl rfl ?_
          refine y_ald (N := 2) dX7_takeClause_145 rfl rfl (by decide) ?_
          refine z_iconst 1 dX7_takeClause_146 (by decide) ?_
          refine z_iadd dX7_takeClause_147 ?_
          refine y_ast (N := 2) dX7_takeClause_148 rfl rfl (by decide) ?_
          refine y_mem (m1 := ryd m2) rfl ?_
          refine z_goto 260 dX7_takeClause_149 (by decide) ?_
          refine z_sub [0] rfl ?_
          exact join260 _ (by first | (simp only [rcl1, rcsun1, rcyd1, c_1, c_2, c_6, ← hg, eq_self, if_true, not_true_eq_false, not_false_eq_true, if_false, reduceIte]; done) | (simp only [rcl1, c_1, c_2, c_6, ← hg, eq_self, if_true, not_true_eq_false, not_false_eq_true, if_false, reduceIte]; rw [hm2]; done) | (simp only [rcl1, rcdd0, c_1, c_2, c_6, eq_self, if_true, not_true_eq_false, not_false_eq_true, if_false, reduceIte]; done) | (simp only [rcl1, ← hm2, ← hg, c_1, c_2, c_6, eq_self, if_true, not_true_eq_false, not_false_eq_true, if_false, reduceIte, rcdd1]; done) | (simp only [rcl1, ← hm2, ← hg, c_1, c_2, c_6, eq_self, if_true, not_true_eq_false, not_false_eq_true, if_false, reduceIte]; rw [hm3]; rfl))
      refine z_aload_n 1 dX7_takeClause_93 rfl rfl ?_
      refine z_aload_n 1 dX7_takeClause_94 rfl rfl ?_
      refine y_getR fX7_36 dX7_takeClause_95 rfl rfl ?_
      refine z_iconst 2 dX7_takeClause_98 (by decide) ?_
      refine y_ald (N := 2) dX7_takeClause_99 rfl rfl (by decide) ?_
      refine z_bipush 8 dX7_takeClause_100 (by decide) ?_
      refine z_icmp_ge 109 dX7_takeClause_102 (by decide) (fun c_7 => ?_) (fun c_7 => ?_)
      · refine z_iconst 0 dX7_takeClause_109 (by decide) ?_
        refine z_sub [1,0] rfl ?_
        exact join110 _ (by simp [c_1, c_2, c_7])
      · refine z_iconst 1 dX7_takeClause_105 (by decide) ?_
        refine z_goto 110 dX7_takeClause_106 (by decide) ?_
        refine z_sub [1,0] rfl ?_
        exact join110 _ (by simp [c_1, c_2, c_7])
  · have join38 : ∀ (g : Int32), g = (if ¬ m1 57 18 = 0 then 0 else 1) → Z (zMB (Q0 (rcl m)) 3 MX7_takeClause) 38 [(0, .ref 57), (1, .int (m1 57 14))] [.int g, .ref 57] (hp m1) 0 0 := by
      intro g hg
      refine z_iconst 3 dX7_takeClause_38 (by decide) ?_
      refine z_iload_n 1 dX7_takeClause_39 rfl rfl ?_
      refine y_Vi [_, _, _] _ kX7_112 c7_want rfl rfl dX7_takeClause_40 rfl rfl (Nat.le_of_ble_eq_true rfl) (Nat.le_of_ble_eq_true rfl) ⟨Nat.zero_le _, Nat.zero_le _⟩ ?_
      refine z_if_eq 260 dX7_takeClause_43 (by decide) (fun c_8 => ?_) (fun c_8 => ?_)
      · refine z_sub [0] rfl ?_
        exact join260 _ (by first | (simp only [rcl1, rcsun1, rcyd1, c_1, c_8, ← hg, eq_self, if_true, not_true_eq_false, not_false_eq_true, if_false, reduceIte]; done) | (simp only [rcl1, c_1, c_8, ← hg, eq_self, if_true, not_true_eq_false, not_false_eq_true, if_false, reduceIte]; rw [hm2]; done) | (simp only [rcl1, rcdd0, c_1, c_8, eq_self, if_true, not_true_eq_false, not_false_eq_true, if_false, reduceIte]; done) | (simp only [rcl1, ← hm2, ← hg, c_1, c_8, eq_self, if_true, not_true_eq_false, not_false_eq_true, if_false, reduceIte, rcdd1]; done) | (simp only [rcl1, ← hm2, ← hg, c_1, c_8, eq_self, if_true, not_true_eq_false, not_false_eq_true, if_false, reduceIte]; rw [hm3]; rfl))
      · obtain ⟨m2, hm2⟩ : ∃ x, x = rcsun1 m1 := ⟨_, rfl⟩
        refine y_mem (m1 := m2) (hm2.trans (by rw [rcsun1, hg])).symm ?_
        have h2 : RM m2 := hm2 ▸ h1.want
        refine z_aload_n 0 dX7_takeClause_46 rfl rfl ?_
        refine z_iconst 1 dX7_takeClause_47 (by decide) ?_
        refine y_putZ (by decide) fX7_124 dX7_takeClause_48 rfl rfl ?_
        refine z_aload_n 0 dX7_takeClause_51 rfl rfl ?_
        refine z_aload_n 0 dX7_takeClause_52 rfl rfl ?_
        refine z_iconst 1 dX7_takeClause_53 (by decide) ?_
        refine z_bipush 20 dX7_takeClause_54 (by decide) ?_
        refine y_Vi [_, _] _ kX7_128 (c7_num (h2.1.fld (by decide) (by decide))) rfl rfl dX7_takeClause_56 rfl rfl (Nat.le_of_ble_eq_true rfl) (Nat.le_of_ble_eq_true rfl) ⟨Nat.zero_le _, Nat.zero_le _⟩ ?_
        refine y_putI fX7_132 dX7_takeClause_59 rfl rfl ?_
        refine z_aload_n 0 dX7_takeClause_62 rfl rfl ?_
        refine z_aload_n 0 dX7_takeClause_63 rfl rfl ?_
        refine z_iconst 0 dX7_takeClause_64 (by decide) ?_
        refine z_bipush 20 dX7_takeClause_65 (by decide) ?_
        refine y_Vi [_, _] _ kX7_128 (c7_num ((h2.1.fld (by decide) (by decide)).sn (by decide) (by decide))) rfl rfl dX7_takeClause_67 rfl rfl (Nat.le_of_ble_eq_true rfl) (Nat.le_of_ble_eq_true rfl) ⟨Nat.zero_le _, Nat.zero_le _⟩ ?_
        refine y_putI fX7_135 dX7_takeClause_70 rfl rfl ?_
        refine y_mem (m1 := rcsun m2) rfl ?_
        refine z_goto 260 dX7_takeClause_73 (by decide) ?_
        refine z_sub [0] rfl ?_
        exact join260 _ (by first | (simp only [rcl1, rcsun1, rcyd1, c_1, c_8, ← hg, eq_self, if_true, not_true_eq_false, not_false_eq_true, if_false, reduceIte]; done) | (simp only [rcl1, c_1, c_8, ← hg, eq_self, if_true, not_true_eq_false, not_false_eq_true, if_false, reduceIte]; rw [hm2]; done) | (simp only [rcl1, rcdd0, c_1, c_8, eq_self, if_true, not_true_eq_false, not_false_eq_true, if_false, reduceIte]; done) | (simp only [rcl1, ← hm2, ← hg, c_1, c_8, eq_self, if_true, not_true_eq_false, not_false_eq_true, if_false, reduceIte, rcdd1]; done) | (simp only [rcl1, ← hm2, ← hg, c_1, c_8, eq_self, if_true, not_true_eq_false, not_false_eq_true, if_false, reduceIte]; rw [hm3]; rfl))
    refine z_aload_n 1 dX7_takeClause_25 rfl rfl ?_
    refine z_aload_n 1 dX7_takeClause_26 rfl rfl ?_
    refine y_getI fX7_124 dX7_takeClause_27 rfl rfl ?_
    refine z_if_ne 37 dX7_takeClause_30 (by decide) (fun c_9 => ?_) (fun c_9 => ?_)
    · refine z_iconst 0 dX7_takeClause_37 (by decide) ?_
      refine z_sub [1,0] rfl ?_
      exact join38 _ (by simp [c_1, c_9])
    · refine z_iconst 1 dX7_takeClause_33 (by decide) ?_
      refine z_goto 38 dX7_takeClause_34 (by decide) ?_
      refine z_sub [1,0] rfl ?_
      exact join38 _ (by simp [c_1, c_9])
