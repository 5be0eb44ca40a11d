/-! what reading a text leaves alone: the reference -/
def rdR (q : Nat) : Prop := q ≠ 57 ∧ q ≠ 67 ∧ (q < 60 ∨ 64 < q)
/-- the same cells, 57 but for 13 .. 20, the rows of the parish now -/
def RK (m m' : zmem) : Prop := (∀ q, rdR q → m' q = m q) ∧ (∀ j, (j < 13 ∨ 20 < j) → m' 57 j = m 57 j) ∧ (∀ q j, 60 ≤ q → q ≤ 63 → j < 8 → m' q j = m q j) ∧ ∀ j, j < 2 → m' 64 j = m 64 j
theorem RK.rf (m : zmem) : RK m m := ⟨fun _ _ => rfl, fun _ _ => rfl, fun _ _ _ _ _ => rfl, fun _ _ => rfl⟩
theorem RK.tr {a b c : zmem} (h : RK a b) (k : RK b c) : RK a c := ⟨fun q hq => (k.1 q hq).trans (h.1 q hq), fun j hj => (k.2.1 j hj).trans (h.2.1 j hj), fun q j h1 h2 h3 => (k.2.2.1 q j h1 h2 h3).trans (h.2.2.1 q j h1 h2 h3), fun j hj => (k.2.2.2 j hj).trans (h.2.2.2 j hj)⟩
theorem RK.of {m m' : zmem} (h1 : ∀ q, q ≠ 57 → m' q = m q) (h2 : ∀ j, (j < 13 ∨ 20 < j) → m' 57 j = m 57 j) : RK m m' := ⟨fun q hq => h1 q hq.1, h2, fun q j a b _ => by rw [h1 q (by omega)], fun j _ => by rw [h1 64 (by decide)]⟩
theorem RK.want (m : zmem) (g n w : Int32) : RK m (rwant m g n w) := RK.of (fun q hq => (want_c m g n w).1 q hq) (fun j hj => (want_c m g n w).2 j (by omega) (by omega))
theorem RK.num (m : zmem) (lo hi : Int32) : RK m (rnum m lo hi).2 := RK.of (fun q hq => (rnum_c m lo hi).1 q hq) (fun j hj => (rnum_c m lo hi).2 j (by omega) (by omega) (by omega) (by omega))
theorem RK.fin (m : zmem) : RK m (rend m) := RK.of (fun q hq => (rend_c m).1 q hq) (fun j hj => (rend_c m).2 j (by omega) (by omega) (by omega))
theorem RK.fld (m : zmem) (j : Nat) (v : Int32) (h : 13 ≤ j ∧ j ≤ 20) : RK m (mset m 57 j v) := RK.of (fun q hq => mset_cell _ hq) (fun i hi => mset_ne _ (by omega))
theorem RK.row (m : zmem) (q j : Nat) (v : Int32) (h : 60 ≤ q ∧ q ≤ 63) (hj : 8 ≤ j) : RK m (mset m q j v) := ⟨fun c hc => mset_cell _ (by have := hc.2.2; omega), fun i _ => by rw [mset_cell _ (by omega)], fun c i _ _ hi => mset_ne _ (by omega), fun i _ => by rw [mset_cell _ (by omega)]⟩
theorem RK.c64 (m : zmem) (j : Nat) (v : Int32) (hj : 2 ≤ j) : RK m (mset m 64 j v) := ⟨fun c hc => mset_cell _ (by have := hc.2.2; omega), fun i _ => by rw [mset_cell _ (by omega)], fun c i _ h2 _ => by rw [mset_cell _ (by omega)], fun i hi => mset_ne _ (by omega)⟩
theorem RK.c67 (m : zmem) (j : Nat) (v : Int32) : RK m (mset m 67 j v) := ⟨fun c hc => mset_cell _ hc.2.1, fun i _ => by rw [mset_cell _ (by omega)], fun c i _ h2 _ => by rw [mset_cell _ (by omega)], fun i hi => by rw [mset_cell _ (by omega)]⟩
theorem RK.it {m a b : zmem} {c : Prop} [Decidable c] (h : RK m a) (k : RK m b) : RK m (if c then a else b) := by
  by_cases z : c
  · rw [if_pos z]; exact h
  · rw [if_neg z]; exact k
theorem RK.ra (m : zmem) (k : Nat) : RK m (rat m k) := RK.fld m 13 _ (by decide)
theorem RK.word (m : zmem) : RK m (rtw m) := by
  have a : RK m (rtw0 m) := (RK.ra m (rblk m)).tr (RK.fld _ 14 _ (by decide))
  have b : RK m (rat (rtw0 m) (rwe m)) := a.tr (RK.ra _ _)
  exact b.tr (RK.fld _ 15 _ (by decide))
theorem RK.dn (m : zmem) (q d : Nat) (hi : Int32) (hq : 60 ≤ q ∧ q ≤ 63) (hd : 8 ≤ d) : RK m (rdn m q d hi) := (RK.num m 0 hi).tr (RK.row _ q d _ hq hd)
theorem RK.sn (m : zmem) (j : Nat) (lo hi : Int32) (h : 13 ≤ j ∧ j ≤ 20) : RK m (rsn m j lo hi) := (RK.num m lo hi).tr (RK.fld _ j _ h)
theorem RK.inc (m : zmem) (j : Nat) (hj : 2 ≤ j) : RK m (rinc m j) := RK.c64 m j _ hj
theorem RK.sun (m : zmem) : RK m (rcsun m) := by
  have a : RK m (mset m 57 18 1) := RK.fld m 18 1 (by decide)
  have b : RK m (rsn (mset m 57 18 1) 19 1 20) := a.tr (RK.sn _ 19 1 20 (by decide))
  exact b.tr (RK.sn _ 20 0 20 (by decide))
theorem RK.yd (m : zmem) : RK m (ryd m) := (RK.dn m 60 (8 + (m 64 2).toNatClampNeg) 99 (by decide) (Nat.le_add_right _ _)).tr (RK.inc _ 2 (by decide))
theorem RK.dd (m : zmem) : RK m (rdd m) := by
  have a := RK.dn m 61 (8 + (m 64 3).toNatClampNeg) 99 (by decide) (Nat.le_add_right _ _)
  have b := a.tr (RK.dn _ 62 (8 + (m 64 3).toNatClampNeg) 999 (by decide) (Nat.le_add_right _ _))
  have c := b.tr (RK.dn _ 63 (8 + (m 64 3).toNatClampNeg) 9 (by decide) (Nat.le_add_right _ _))
  exact c.tr (RK.inc _ 3 (by decide))
theorem RK.cl1 (m : zmem) : RK m (rcl1 m) := by
  have a : RK m (rcdd0 m) := RK.want m _ _ _
  have b : RK m (rcdd1 (rcdd0 m) (m 57 14)) := a.tr (RK.want _ _ _ _)
  have c : RK m (rcyd1 m) := RK.want m _ _ _
  have d : RK m (rcsun1 m) := RK.want m _ _ _
  exact RK.it (RK.it (RK.it a (RK.it b (b.tr (RK.dd _)))) (RK.it c (c.tr (RK.yd _)))) (RK.it d (d.tr (RK.sun _)))
theorem RK.cl (m : zmem) : RK m (rcl m) := ((RK.word m).tr (RK.cl1 _)).tr (RK.fin _)
theorem RK.read {mR : zmem} : ∀ F m, rreadP F m mR → RK m mR := by
  intro F
  induction F with
  | zero => intro m h; exact h.elim
  | succ F ih =>
    intro m h
    have h : if ¬ m 57 16 = 0 then mR = m else if rhr m < 0 then mR = rat m (rblk m) else rreadP F (rcl (rat m (rblk m))) mR := h
    by_cases c1 : ¬ m 57 16 = 0
    · rw [if_pos c1] at h; rw [h]; exact RK.rf m
    · rw [if_neg c1] at h
      by_cases c2 : rhr m < 0
      · rw [if_pos c2] at h; rw [h]; exact RK.ra _ _
      · rw [if_neg c2] at h; exact ((RK.ra m _).tr (RK.cl _)).tr (ih _ h)
theorem RK.st (m : zmem) : RK m (rstart m) := ((RK.fld m 13 0 (by decide)).tr (RK.fld _ 16 0 (by decide))).tr (RK.fld _ 17 (-1) (by decide))
theorem RK.p0 (m : zmem) : RK m (rp0 m) := by
  have a := (RK.st m).tr (RK.c64 _ 2 0 (by decide))
  have b := a.tr (RK.c64 _ 3 0 (by decide))
  have c := b.tr (RK.fld _ 18 0 (by decide))
  have d := c.tr (RK.fld _ 19 6 (by decide))
  exact d.tr (RK.fld _ 20 2 (by decide))
/-! the relation behind a text -/
theorem PR.congr8 {s s' t t' : zmem} {p X D Y : Nat} (h : PR s p t X D Y) (h1 : ∀ c, c < 10 → s' (p + c) = s (p + c)) (h2 : t' 58 = t 58) (h3 : ∀ k, k < 8 → t' 63 k = t 63 k) (hD : D ≤ 7) : PR s' p t' X D Y := by
  obtain ⟨g1, g2, g3, g4, g5, g6, g7⟩ := h
  have e0 : s' p = s p := h1 0 (by decide)
  refine ⟨fun c hc k hk => ?_, fun k hk => ?_, fun k hk => ?_, ?_, ?_, ?_, fun j k hj hk => ?_⟩
  · rw [h1 c (by rcases hc with rfl | rfl | rfl | rfl | rfl | rfl | rfl | rfl <;> decide), h2]
    exact g1 c hc k hk
  · rw [h1 4 (by decide), h3 k (by omega)]; exact g2 k hk
  · rw [e0, h2]; exact g3 k hk
  · rw [e0, h2]; exact g4
  · rw [e0, h2]; exact g5
  · rw [h2]; exact g6
  · rw [h2]; exact g7 j k hj hk
section RPT
variable {s t s' t' : zmem} {D Y C L W : Nat}
theorem RP.text (h : RP s t D Y C L W) {C' : Nat} (hs : ∀ q, (q = 0 ∨ (7 ≤ q ∧ q ≤ 16) ∨ (27 ≤ q ∧ q ≤ 49)) → s' q = s q) (ht : ∀ q, (q = 58 ∨ q = 59 ∨ q = 73 ∨ q = 74) → t' q = t q) (h63 : ∀ k, k < 8 → t' 63 k = t 63 k) (h64 : ∀ k, k < 2 → t' 64 k = t 64 k) (h57 : ∀ j, (j = 2 ∨ j = 3 ∨ j = 30) → t' 57 j = t 57 j) (hC : s' 3 1 = Int32.ofNat C' ∧ t' 57 10 = Int32.ofNat C' ∧ C' ≤ 4) (hCL : CL s' t' C') (hL : s' 1 1 = 0 ∧ t' 57 12 = 0) (hf : s' 1 4 = t' 57 17) : RP s' t' D Y C' 0 W := by
  obtain ⟨c, r, p, a1, a2, a3, a4, a5, a6, a7, a8⟩ := h
  have im : ∀ q X, 27 ≤ q → q ≤ 37 → IM s q t X D Y → IM s' q t' X D Y := fun q X h1 h2 i => ⟨i.1.congr8 (fun c hc => hs _ (by omega)) (ht 58 (by decide)) h63 c.2.1, fun j hj => by rw [hs q (by omega), hs 7 (by decide)]; exact i.2 j hj⟩
  refine ⟨?_, ?_, p.congr8 (fun c hc => hs _ (by omega)) (ht 58 (by decide)) h63 c.2.1, ?_, hCL, fun k hk => absurd hk (Nat.not_lt_zero k), ?_, hf, ?_, ?_, ?_⟩
  · unfold CI at c ⊢
    rw [hs 7 (by decide), hs 47 (by decide)]
    exact ⟨c.1, c.2.1, c.2.2.1, c.2.2.2.1, hC.1, hC.2.2, hL.1, Nat.zero_le _, c.2.2.2.2.2.2.2.2.1, c.2.2.2.2.2.2.2.2.2⟩
  · unfold RI at r ⊢
    rw [h64 1 (by decide), h64 0 (by decide), h57 30 (by decide)]
    exact ⟨r.1, r.2.1, r.2.2.1, r.2.2.2.1, hC.2.1, by omega, hL.2, Nat.zero_le _, r.2.2.2.2.2.2.2.2.1, r.2.2.2.2.2.2.2.2.2⟩
  · rw [hs 7 (by decide), h57 2 (by decide), h57 3 (by decide)]; exact a1
  · intro k hk; rw [hs 48 (by decide), hs 49 (by decide), ht 73 (by decide), ht 74 (by decide)]; exact a4 k hk
  · rw [hs 0 (by decide), ht 59 (by decide)]; exact a6
  · rw [hs 0 (by decide)]; exact fun q => im 27 200 (by decide) (by decide) (a7 q)
  · rw [hs 0 (by decide)]; exact fun q => im 37 300 (by decide) (by decide) (a8 q)
end RPT
/-! the new parish: class -/
theorem sset_at {k : Nat} (hk : k < 7) (m : zmem) : (∀ q, (q < 22 ∨ 26 < q) → sset 17 k m q = m q) ∧ (∀ q j, j ≠ k → sset 17 k m q j = m q j) ∧ sset 17 k m 22 k = 0 ∧ sset 17 k m 23 k = 9 ∧ sset 17 k m 24 k = -1 ∧ sset 17 k m 25 k = Int32.ofNat k ∧ sset 17 k m 26 k = sbit (m 17 1) - 1 := by
  have e1 : sset1 17 k m = mset (mset (mset (mset m 22 k 0) 23 k 9) 24 k (-1)) 25 k (Int32.ofNat k) := by
    unfold sset1
    rw [aput_k hk (by decide), aput_k hk (by decide), aput_k hk (by decide), aput_k hk (by decide)]
  have e2 : sset1 17 k m 17 1 = m 17 1 := by rw [e1, mset_cell _ (by decide), mset_cell _ (by decide), mset_cell _ (by decide), mset_cell _ (by decide)]
  have e : sset 17 k m = mset (mset (mset (mset (mset m 22 k 0) 23 k 9) 24 k (-1)) 25 k (Int32.ofNat k)) 26 k (sbit (m 17 1) - 1) := by
    unfold sset
    rw [aput_k hk (by decide), e2, e1]
  rw [e]
  refine ⟨fun q hq => ?_, fun q j hj => ?_, ?_, ?_, ?_, ?_, ?_⟩
  · rw [mset_cell _ (by omega), mset_cell _ (by omega), mset_cell _ (by omega), mset_cell _ (by omega), mset_cell _ (by omega)]
  · rw [mset_ne _ (by omega), mset_ne _ (by omega), mset_ne _ (by omega), mset_ne _ (by omega), mset_ne _ (by omega)]
  · rw [mset_ne _ (by omega), mset_ne _ (by omega), mset_ne _ (by omega), mset_ne _ (by omega), mset_eq]
  · rw [mset_ne _ (by omega), mset_ne _ (by omega), mset_ne _ (by omega), mset_eq]
  · rw [mset_ne _ (by omega), mset_ne _ (by omega), mset_eq]
  · rw [mset_ne _ (by omega), mset_eq]
  · rw [mset_eq]
theorem ssets_at : ∀ n k m, k + n ≤ 7 → (∀ q, (q < 22 ∨ 26 < q) → sfold (sset 17) n k m q = m q) ∧ (∀ q j, (j < k ∨ k + n ≤ j) → sfold (sset 17) n k m q j = m q j) ∧ ∀ j, k ≤ j → j < k + n → sfold (sset 17) n k m 22 j = 0 ∧ sfold (sset 17) n k m 23 j = 9 ∧ sfold (sset 17) n k m 24 j = -1 ∧ sfold (sset 17) n k m 25 j = Int32.ofNat j ∧ sfold (sset 17) n k m 26 j = sbit (m 17 1) - 1 := by
  intro n
  induction n with
  | zero => intro k m _; exact ⟨fun _ _ => rfl, fun _ _ _ => rfl, fun j h1 h2 => by omega⟩
  | succ n ih =>
    intro k m hk
    have g := sset_at (k := k) (by omega) m
    obtain ⟨h1, h2, h3⟩ := ih (k + 1) (sset 17 k m) (by omega)
    have e : sfold (sset 17) (n + 1) k m = sfold (sset 17) n (k + 1) (sset 17 k m) := rfl
    rw [e]
    refine ⟨fun q hq => (h1 q hq).trans (g.1 q hq), fun q j hj => (h2 q j (by omega)).trans (g.2.1 q j (by omega)), fun j j1 j2 => ?_⟩
    by_cases z : j = k
    · subst z
      rw [h2 22 j (by omega), h2 23 j (by omega), h2 24 j (by omega), h2 25 j (by omega), h2 26 j (by omega)]
      exact g.2.2
    · have y := h3 j (by omega) (by omega)
      rw [g.1 17 (by omega)] at y
      exact y
theorem p4_at (u : zmem) : (∀ q, (1 ≤ q ∧ q < 7 ∨ 27 ≤ q ∧ q ≠ 47) → sk_p4 u q = u q) ∧ (sk_p4 u 47 2 = 0 ∧ sk_p4 u 0 7 = 0 ∧ sk_p4 u 0 8 = 0) ∧ (sk_p4 u 7 0 = u 17 0 ∧ sk_p4 u 7 1 = u 17 1 ∧ sk_p4 u 7 2 = (if ¬ u 17 2 = 0 then u 17 2 else 6) ∧ sk_p4 u 7 3 = (if ¬ u 17 2 = 0 then u 17 3 else 2)) ∧ (sk_p4 u 7 13 = 0 ∧ sk_p4 u 7 14 = 0 ∧ sk_p4 u 7 15 = u 7 15) ∧ (∀ k, k < 8 → sk_p4 u 8 k = u 18 k) ∧ ∀ k, k < 7 → sk_p4 u 9 k = u 19 k ∧ sk_p4 u 10 k = u 20 k ∧ sk_p4 u 11 k = u 21 k ∧ sk_p4 u 12 k = 0 ∧ sk_p4 u 13 k = 9 ∧ sk_p4 u 14 k = -1 ∧ sk_p4 u 15 k = Int32.ofNat k ∧ sk_p4 u 16 k = sbit (u 17 1) - 1 := by
  obtain ⟨x, ex⟩ : ∃ x, x = ssun u 17 := ⟨_, rfl⟩
  have x1 : ∀ q, q ≠ 17 → x q = u q := fun q hq => by
    rw [ex]; unfold ssun
    split
    · rfl
    · rw [mset_cell _ hq, mset_cell _ hq]
  have x2 : ∀ j, j ≠ 2 → j ≠ 3 → x 17 j = u 17 j := fun j j2 j3 => by
    rw [ex]; unfold ssun
    split
    · rfl
    · rw [mset_ne _ (by omega), mset_ne _ (by omega)]
  have x3 : x 17 2 = (if ¬ u 17 2 = 0 then u 17 2 else 6) ∧ x 17 3 = (if ¬ u 17 2 = 0 then u 17 3 else 2) := by
    rw [ex]; unfold ssun
    by_cases z : ¬ u 17 2 = 0
    · rw [if_pos z, if_pos z, if_pos z]; exact ⟨rfl, rfl⟩
    · rw [if_neg z, if_neg z, if_neg z, mset_ne _ (by decide), mset_eq, mset_eq]; exact ⟨rfl, rfl⟩
  obtain ⟨y, ey⟩ : ∃ y, y = sfold (sset 17) 7 0 x := ⟨_, rfl⟩
  obtain ⟨y1, y2, y3⟩ := ssets_at 7 0 x (by decide)
  rw [← ey] at y1 y2 y3
  obtain ⟨z, ez⟩ : ∃ z, z = ssettle u 17 := ⟨_, rfl⟩
  have z0 : z = mset (mset y 17 13 0) 17 14 0 := by rw [ez, ey, ex]; rfl
  have z1 : ∀ q, q ≠ 17 → z q = y q := fun q hq => by rw [z0, mset_cell _ hq, mset_cell _ hq]
  have z2 : ∀ j, j ≠ 13 → j ≠ 14 → z 17 j = y 17 j := fun j h1 h2 => by rw [z0, mset_ne _ (by omega), mset_ne _ (by omega)]
  have z3 : z 17 13 = 0 ∧ z 17 14 = 0 := by rw [z0, mset_ne _ (by decide), mset_eq, mset_eq]; exact ⟨rfl, rfl⟩
  obtain ⟨w, ew⟩ : ∃ w, w = sk_p3 u := ⟨_, rfl⟩
  have w0 : w = mset z 17 15 (z 7 15) := by rw [ew, ez]; rfl
  have w1 : ∀ q, q ≠ 17 → w q = z q := fun q hq => by rw [w0, mset_cell _ hq]
  have w2 : ∀ j, j ≠ 15 → w 17 j = z 17 j := fun j h1 => by rw [w0, mset_ne _ (by omega)]
  have w3 : w 17 15 = z 7 15 := by rw [w0, mset_eq]
  obtain ⟨g1, g2, g3⟩ := copyP_at (o := 17) (p := 7) (by omega) w
  obtain ⟨c, ec⟩ : ∃ c, c = scopyP 17 7 w := ⟨_, rfl⟩
  rw [← ec] at g1 g2 g3
  obtain ⟨v, ev⟩ : ∃ v, v = sk_p4 u := ⟨_, rfl⟩
  have v0 : v = mset (mset (mset c 47 2 0) 0 7 0) 0 8 0 := by rw [ev, ec, ew]; rfl
  have v1 : ∀ q, q ≠ 0 → q ≠ 47 → v q = c q := fun q h1 h2 => by rw [v0, mset_cell _ h1, mset_cell _ h1, mset_cell _ h2]
  rw [← ev]
  -- the cells apart from the parishes
  have far : ∀ q, (1 ≤ q ∧ q < 7 ∨ 27 ≤ q ∧ q ≠ 47) → v q = u q := fun q hq => by
    rw [v1 q (by omega) (by omega), g1 q (by omega), w1 q (by omega), z1 q (by omega), y1 q (by omega), x1 q (by omega)]
  have f17 : ∀ j, j < 4 → v 7 j = x 17 j := fun j hj => by
    rw [v1 7 (by decide) (by decide), g3 j (Or.inl hj), w2 j (by omega), z2 j (by omega) (by omega), y1 17 (by decide)]
  have row : ∀ c', 1 ≤ c' → c' < 10 → ∀ k, k < (if c' = 1 then 8 else 7) → v (7 + c') k = y (17 + c') k := fun c' h1 h2 k hk => by
    rw [v1 _ (by omega) (by omega), g2 c' h1 h2 k hk, w1 _ (by omega), z1 _ (by omega)]
  refine ⟨far, ⟨?_, ?_, ?_⟩, ⟨?_, ?_, ?_, ?_⟩, ⟨?_, ?_, ?_⟩, fun k hk => ?_, fun k hk => ?_⟩
  · rw [v0, mset_cell _ (by decide), mset_cell _ (by decide), mset_eq]
  · rw [v0, mset_ne _ (by decide), mset_eq]
  · rw [v0, mset_eq]
  · rw [f17 0 (by decide), x2 0 (by decide) (by decide)]
  · rw [f17 1 (by decide), x2 1 (by decide) (by decide)]
  · rw [f17 2 (by decide)]; exact x3.1
  · rw [f17 3 (by decide)]; exact x3.2
  · rw [v1 7 (by decide) (by decide), g3 13 (by decide), w2 13 (by decide)]; exact z3.1
  · rw [v1 7 (by decide) (by decide), g3 14 (by decide), w2 14 (by decide)]; exact z3.2
  · rw [v1 7 (by decide) (by decide), g3 15 (by decide), w3, z1 7 (by decide), y1 7 (by decide), x1 7 (by decide)]
  · have := row 1 (by decide) (by decide) k hk
    rw [y1 (17 + 1) (by decide), x1 (17 + 1) (by decide)] at this
    exact this
  · have r2 := row 2 (by decide) (by decide) k hk
    have r3 := row 3 (by decide) (by decide) k hk
    have r4 := row 4 (by decide) (by decide) k hk
    have r5 := row 5 (by decide) (by decide) k hk
    have r6 := row 6 (by decide) (by decide) k hk
    have r7 := row 7 (by decide) (by decide) k hk
    have r8 := row 8 (by decide) (by decide) k hk
    have r9 := row 9 (by decide) (by decide) k hk
    rw [y1 (17 + 2) (by decide), x1 (17 + 2) (by decide)] at r2
    rw [y1 (17 + 3) (by decide), x1 (17 + 3) (by decide)] at r3
    rw [y1 (17 + 4) (by decide), x1 (17 + 4) (by decide)] at r4
    obtain ⟨s5, s6, s7, s8, s9⟩ := y3 k (Nat.zero_le _) (by omega)
    rw [x2 1 (by decide) (by decide)] at s9
    exact ⟨r2, r3, r4, r5.trans s5, r6.trans s6, r7.trans s7, r8.trans s8, r9.trans s9⟩
/-! the new parish: reference -/
theorem rps_at {k : Nat} (hk : k < 8) (m : zmem) : (∀ q, q ≠ 58 → (q < 60 ∨ 63 < q) → rps k m q = m q) ∧ (∀ q j, 60 ≤ q → q ≤ 63 → j ≠ k → rps k m q j = m q j) ∧ rps k m 63 k = m 63 (8 + k) ∧ (∀ j, j ≠ k → j ≠ 8 + k → j ≠ 16 + k → j ≠ 24 + k → j ≠ 32 + k → j ≠ 40 + k → j ≠ 48 + k → j ≠ 56 + k → j ≠ 64 + k → rps k m 58 j = m 58 j) ∧ rps k m 58 k = m 60 (8 + k) ∧ rps k m 58 (8 + k) = m 61 (8 + k) ∧ rps k m 58 (16 + k) = m 62 (8 + k) ∧ rps k m 58 (24 + k) = 0 ∧ rps k m 58 (32 + k) = 9 ∧ rps k m 58 (40 + k) = -1 ∧ rps k m 58 (48 + k) = 0 ∧ rps k m 58 (56 + k) = Int32.ofNat k ∧ rps k m 58 (64 + k) = (1 <<< (m 64 1 &&& 31)) - 1 := by
  have hk' : k < 2147483648 := by omega
  obtain ⟨a, ea⟩ : ∃ a, a = rq63 k (rq62 k (rq61 k (rq60 k m))) := ⟨_, rfl⟩
  have a0 : a = mset (mset (mset (mset m 60 k (m 60 (8 + k))) 61 k (m 61 (8 + k))) 62 k (m 62 (8 + k))) 63 k (m 63 (8 + k)) := by
    rw [ea]
    unfold rq63 rq62 rq61 rq60
    rw [mset_cell (a := 61) (k := 60) _ (by decide), mset_cell (a := 62) (k := 61) _ (by decide), mset_cell (a := 62) (k := 60) _ (by decide), mset_cell (a := 63) (k := 62) _ (by decide), mset_cell (a := 63) (k := 61) _ (by decide), mset_cell (a := 63) (k := 60) _ (by decide)]
  have a1 : ∀ q, (q < 60 ∨ 63 < q) → a q = m q := fun q hq => by rw [a0, mset_cell _ (by omega), mset_cell _ (by omega), mset_cell _ (by omega), mset_cell _ (by omega)]
  have a2 : ∀ q j, j ≠ k → a q j = m q j := fun q j hj => by rw [a0, mset_ne _ (by omega), mset_ne _ (by omega), mset_ne _ (by omega), mset_ne _ (by omega)]
  have a3 : a 60 k = m 60 (8 + k) ∧ a 61 k = m 61 (8 + k) ∧ a 62 k = m 62 (8 + k) ∧ a 63 k = m 63 (8 + k) := by
    rw [a0]
    refine ⟨?_, ?_, ?_, ?_⟩
    · rw [mset_ne _ (by omega), mset_ne _ (by omega), mset_ne _ (by omega), mset_eq]
    · rw [mset_ne _ (by omega), mset_ne _ (by omega), mset_eq]
    · rw [mset_ne _ (by omega), mset_eq]
    · rw [mset_eq]
  obtain ⟨b, eb⟩ : ∃ b, b = rw16 k (rw8 k (rw0 k a)) := ⟨_, rfl⟩
  have b0 : b = mset (mset (mset a 58 k (a 60 k)) 58 (8 + k) (a 61 k)) 58 (16 + k) (a 62 k) := by
    rw [eb]
    unfold rw16 rw8 rw0
    rw [wp_k hk', wp_k hk', wp_k hk', mset_cell (a := 61) (k := 58) _ (by decide), mset_cell (a := 62) (k := 58) _ (by decide), mset_cell (a := 62) (k := 58) _ (by decide)]
    try simp only [Nat.zero_add]
  obtain ⟨c, ec⟩ : ∃ c, c = rwc 56 k (Int32.ofNat k) (rwc 48 k 0 (rwc 40 k (-1) (rwc 32 k 9 (rwc 24 k 0 b)))) := ⟨_, rfl⟩
  have c0 : c = mset (mset (mset (mset (mset b 58 (24 + k) 0) 58 (32 + k) 9) 58 (40 + k) (-1)) 58 (48 + k) 0) 58 (56 + k) (Int32.ofNat k) := by
    rw [ec]
    unfold rwc
    rw [wp_k hk', wp_k hk', wp_k hk', wp_k hk', wp_k hk']
    try simp only [Nat.zero_add]
  have c1 : ∀ q, q ≠ 58 → c q = a q := fun q hq => by rw [c0, mset_cell _ hq, mset_cell _ hq, mset_cell _ hq, mset_cell _ hq, mset_cell _ hq, b0, mset_cell _ hq, mset_cell _ hq, mset_cell _ hq]
  obtain ⟨d, ed⟩ : ∃ d, d = rps k m := ⟨_, rfl⟩
  have d0 : d = mset c 58 (64 + k) ((1 <<< (m 64 1 &&& 31)) - 1) := by
    have : d = wp c 0 64 (Int32.ofNat k) ((1 <<< (c 64 1 &&& 31)) - 1) := by rw [ed, ec, eb, ea]; rfl
    rw [this, wp_k hk', c1 64 (by decide), a1 64 (by decide), Nat.zero_add]
  rw [← ed]
  have cb : ∀ j, j ≠ 24 + k → j ≠ 32 + k → j ≠ 40 + k → j ≠ 48 + k → j ≠ 56 + k → c 58 j = b 58 j := fun j h1 h2 h3 h4 h5 => by rw [c0, mset_ne _ (by omega), mset_ne _ (by omega), mset_ne _ (by omega), mset_ne _ (by omega), mset_ne _ (by omega)]
  have dc : ∀ j, j ≠ 64 + k → d 58 j = c 58 j := fun j h1 => by rw [d0, mset_ne _ (by omega)]
  refine ⟨fun q h1 h2 => ?_, fun q j h1 h2 h3 => ?_, ?_, fun j h1 h2 h3 h4 h5 h6 h7 h8 h9 => ?_, ?_, ?_, ?_, ?_, ?_, ?_, ?_, ?_, ?_⟩
  · rw [d0, mset_cell _ h1, c1 q h1, a1 q h2]
  · rw [d0, mset_cell _ (by omega), c1 q (by omega), a2 q j h3]
  · rw [d0, mset_cell _ (by decide), c1 63 (by decide)]; exact a3.2.2.2
  · rw [dc j h9, cb j h4 h5 h6 h7 h8, b0, mset_ne _ (by omega), mset_ne _ (by omega), mset_ne _ (by omega), a1 58 (by decide)]
  · rw [dc _ (by omega), cb _ (by omega) (by omega) (by omega) (by omega) (by omega), b0, mset_ne _ (by omega), mset_ne _ (by omega), mset_eq]; exact a3.1
  · rw [dc _ (by omega), cb _ (by omega) (by omega) (by omega) (by omega) (by omega), b0, mset_ne _ (by omega), mset_eq]; exact a3.2.1
  · rw [dc _ (by omega), cb _ (by omega) (by omega) (by omega) (by omega) (by omega), b0, mset_eq]; exact a3.2.2.1
  · rw [dc _ (by omega), c0, mset_ne _ (by omega), mset_ne _ (by omega), mset_ne _ (by omega), mset_ne _ (by omega), mset_eq]
  · rw [dc _ (by omega), c0, mset_ne _ (by omega), mset_ne _ (by omega), mset_ne _ (by omega), mset_eq]
  · rw [dc _ (by omega), c0, mset_ne _ (by omega), mset_ne _ (by omega), mset_eq]
  · rw [dc _ (by omega), c0, mset_ne _ (by omega), mset_eq]
  · rw [dc _ (by omega), c0, mset_eq]
  · rw [d0, mset_eq]
/-- row k of the parish now, in the reference -/
def RROW (v m : zmem) (j : Nat) : Prop := v 63 j = m 63 (8 + j) ∧ v 58 j = m 60 (8 + j) ∧ v 58 (8 + j) = m 61 (8 + j) ∧ v 58 (16 + j) = m 62 (8 + j) ∧ v 58 (24 + j) = 0 ∧ v 58 (32 + j) = 9 ∧ v 58 (40 + j) = -1 ∧ v 58 (48 + j) = 0 ∧ v 58 (56 + j) = Int32.ofNat j ∧ v 58 (64 + j) = (1 <<< (m 64 1 &&& 31)) - 1
theorem rpss_at : ∀ n k m, k + n ≤ 8 → (∀ q, q ≠ 58 → (q < 60 ∨ 63 < q) → sfold rps n k m q = m q) ∧ (∀ q j, 60 ≤ q → q ≤ 63 → (j < k ∨ k + n ≤ j) → sfold rps n k m q j = m q j) ∧ (∀ c j, c < 9 → j < 8 → (j < k ∨ k + n ≤ j) → sfold rps n k m 58 (8 * c + j) = m 58 (8 * c + j)) ∧ (∀ j, 72 ≤ j → sfold rps n k m 58 j = m 58 j) ∧ ∀ j, k ≤ j → j < k + n → RROW (sfold rps n k m) m j := by
  intro n
  induction n with
  | zero => intro k m _; exact ⟨fun _ _ _ => rfl, fun _ _ _ _ _ => rfl, fun _ _ _ _ _ => rfl, fun _ _ => rfl, fun j h1 h2 => by omega⟩
  | succ n ih =>
    intro k m hk
    obtain ⟨g1, g2, g3, g4, g5, g6, g7, g8, g9, ga, gb, gc, gd⟩ := rps_at (k := k) (by omega) m
    obtain ⟨h1, h2, h3, h4, h5⟩ := ih (k + 1) (rps k m) (by omega)
    have e : sfold rps (n + 1) k m = sfold rps n (k + 1) (rps k m) := rfl
    rw [e]
    generalize sfold rps n (k + 1) (rps k m) = v at h1 h2 h3 h4 h5 ⊢
    refine ⟨fun q q1 q2 => (h1 q q1 q2).trans (g1 q q1 q2), fun q j q1 q2 hj => (h2 q j q1 q2 (by omega)).trans (g2 q j q1 q2 (by omega)), fun c j hc hj hj2 => (h3 c j hc hj (by omega)).trans (g4 _ (by omega) (by omega) (by omega) (by omega) (by omega) (by omega) (by omega) (by omega) (by omega)), fun j hj => (h4 j hj).trans (g4 _ (by omega) (by omega) (by omega) (by omega) (by omega) (by omega) (by omega) (by omega) (by omega)), fun j j1 j2 => ?_⟩
    by_cases z : j = k
    · subst z
      have f : ∀ c, c < 9 → v 58 (8 * c + j) = rps j m 58 (8 * c + j) := fun c hc => h3 c j hc (by omega) (by omega)
      have f0 := f 0 (by decide)
      have f1 := f 1 (by decide)
      have f2 := f 2 (by decide)
      have f3 := f 3 (by decide)
      have f4 := f 4 (by decide)
      have f5 := f 5 (by decide)
      have f6 := f 6 (by decide)
      have f7 := f 7 (by decide)
      have f8 := f 8 (by decide)
      rw [Nat.mul_zero, Nat.zero_add] at f0
      exact ⟨(h2 63 j (by decide) (by decide) (by omega)).trans g3, f0.trans g5, f1.trans g6, f2.trans g7, f3.trans g8, f4.trans g9, f5.trans ga, f6.trans gb, f7.trans gc, f8.trans gd⟩
    · obtain ⟨k1, k2, k3, k4, k5⟩ := h5 j (by omega) (by omega)
      rw [g2 63 _ (by decide) (by decide) (by omega)] at k1
      rw [g2 60 _ (by decide) (by decide) (by omega)] at k2
      rw [g2 61 _ (by decide) (by decide) (by omega)] at k3
      rw [g2 62 _ (by decide) (by decide) (by omega)] at k4
      rw [g1 64 (by decide) (by decide)] at k5
      exact ⟨k1, k2, k3, k4, k5⟩
theorem p3_at (m : zmem) : (∀ q, q ≠ 57 → q ≠ 58 → q ≠ 59 → (q < 60 ∨ 64 < q) → rpar3 (rpar2 (rpar0 m)) q = m q) ∧ (rpar3 (rpar2 (rpar0 m)) 64 0 = m 64 2 ∧ rpar3 (rpar2 (rpar0 m)) 64 1 = m 64 3) ∧ (rpar3 (rpar2 (rpar0 m)) 57 2 = m 57 19 ∧ rpar3 (rpar2 (rpar0 m)) 57 3 = m 57 20 ∧ rpar3 (rpar2 (rpar0 m)) 57 12 = 0 ∧ rpar3 (rpar2 (rpar0 m)) 57 30 = 0 ∧ rpar3 (rpar2 (rpar0 m)) 57 10 = m 57 10 ∧ rpar3 (rpar2 (rpar0 m)) 57 17 = m 57 17) ∧ (rpar3 (rpar2 (rpar0 m)) 59 0 = 0 ∧ rpar3 (rpar2 (rpar0 m)) 59 1 = 0) ∧ (rpar3 (rpar2 (rpar0 m)) 58 72 = 0 ∧ rpar3 (rpar2 (rpar0 m)) 58 73 = m 58 73) ∧ ∀ j, j < 8 → rpar3 (rpar2 (rpar0 m)) 63 j = m 63 (8 + j) ∧ rpar3 (rpar2 (rpar0 m)) 58 j = m 60 (8 + j) ∧ rpar3 (rpar2 (rpar0 m)) 58 (8 + j) = m 61 (8 + j) ∧ rpar3 (rpar2 (rpar0 m)) 58 (16 + j) = m 62 (8 + j) ∧ rpar3 (rpar2 (rpar0 m)) 58 (24 + j) = 0 ∧ rpar3 (rpar2 (rpar0 m)) 58 (32 + j) = 9 ∧ rpar3 (rpar2 (rpar0 m)) 58 (40 + j) = -1 ∧ rpar3 (rpar2 (rpar0 m)) 58 (48 + j) = 0 ∧ rpar3 (rpar2 (rpar0 m)) 58 (56 + j) = Int32.ofNat j ∧ rpar3 (rpar2 (rpar0 m)) 58 (64 + j) = (1 <<< (m 64 3 &&& 31)) - 1 := by
  obtain ⟨a, ea⟩ : ∃ a, a = rpar1 (rpar0 m) := ⟨_, rfl⟩
  have a1 : ∀ q, q ≠ 57 → q ≠ 64 → a q = m q := fun q h1 h2 => by
    rw [ea]; unfold rpar1 rf3 rf2 rqm1 rqm0 rpar0
    rw [mset_cell _ h1, mset_cell _ h1, mset_cell _ h2, mset_cell _ h2, mset_cell _ h1]
  have a2 : a 64 0 = m 64 2 ∧ a 64 1 = m 64 3 ∧ a 57 2 = m 57 19 ∧ a 57 3 = m 57 20 ∧ a 57 12 = 0 ∧ a 57 10 = m 57 10 ∧ a 57 17 = m 57 17 := by
    rw [ea]
    refine ⟨?_, ?_, ?_, ?_, ?_, ?_, ?_⟩ <;> simp [rpar1, rf3, rf2, rqm1, rqm0, rpar0, mset]
  obtain ⟨v, ev⟩ : ∃ v, v = rpar2 (rpar0 m) := ⟨_, rfl⟩
  obtain ⟨g1, g2, g3, g4, g5⟩ := rpss_at 8 0 a (by decide)
  have v0 : v = sfold rps 8 0 a := by rw [ev, ea]; rfl
  rw [← v0] at g1 g2 g3 g4 g5
  rw [← ev]
  obtain ⟨z, ez⟩ : ∃ z, z = rpar3 v := ⟨_, rfl⟩
  have z0 : z = mset (mset (mset (mset v 58 72 0) 57 30 0) 59 0 0) 59 1 0 := by rw [ez]; rfl
  rw [← ez]
  have z1 : ∀ q, q ≠ 57 → q ≠ 58 → q ≠ 59 → z q = v q := fun q h1 h2 h3 => by rw [z0, mset_cell _ h3, mset_cell _ h3, mset_cell _ h1, mset_cell _ h2]
  have z7 : ∀ j, j ≠ 30 → z 57 j = v 57 j := fun j hj => by rw [z0, mset_cell _ (by decide), mset_cell _ (by decide), mset_ne _ (by omega), mset_cell _ (by decide)]
  have z8 : ∀ j, j ≠ 72 → z 58 j = v 58 j := fun j hj => by rw [z0, mset_cell _ (by decide), mset_cell _ (by decide), mset_cell _ (by decide), mset_ne _ (by omega)]
  refine ⟨fun q h1 h2 h3 h4 => ?_, ⟨?_, ?_⟩, ⟨?_, ?_, ?_, ?_, ?_, ?_⟩, ⟨?_, ?_⟩, ⟨?_, ?_⟩, fun j hj => ?_⟩
  · rw [z1 q h1 h2 h3, g1 q h2 (by omega), a1 q h1 (by omega)]
  · rw [z1 64 (by decide) (by decide) (by decide), g1 64 (by decide) (by decide)]; exact a2.1
  · rw [z1 64 (by decide) (by decide) (by decide), g1 64 (by decide) (by decide)]; exact a2.2.1
  · rw [z7 2 (by decide), g1 57 (by decide) (by decide)]; exact a2.2.2.1
  · rw [z7 3 (by decide), g1 57 (by decide) (by decide)]; exact a2.2.2.2.1
  · rw [z7 12 (by decide), g1 57 (by decide) (by decide)]; exact a2.2.2.2.2.1
  · rw [z0, mset_cell _ (by decide), mset_cell _ (by decide), mset_eq]
  · rw [z7 10 (by decide), g1 57 (by decide) (by decide)]; exact a2.2.2.2.2.2.1
  · rw [z7 17 (by decide), g1 57 (by decide) (by decide)]; exact a2.2.2.2.2.2.2
  · rw [z0, mset_ne _ (by decide), mset_eq]
  · rw [z0, mset_eq]
  · rw [z0, mset_cell _ (by decide), mset_cell _ (by decide), mset_cell _ (by decide), mset_eq]
  · rw [z8 73 (by decide), g4 73 (by decide), a1 58 (by decide) (by decide)]
  · obtain ⟨k1, k2, k3, k4, k5⟩ := g5 j (Nat.zero_le _) (by omega)
    rw [a1 63 (by decide) (by decide)] at k1
    rw [a1 60 (by decide) (by decide)] at k2
    rw [a1 61 (by decide) (by decide)] at k3
    rw [a1 62 (by decide) (by decide)] at k4
    rw [a2.2.1] at k5
    rw [z1 63 (by decide) (by decide) (by decide), z8 j (by omega), z8 _ (by omega), z8 _ (by omega), z8 _ (by omega), z8 _ (by omega), z8 _ (by omega), z8 _ (by omega), z8 _ (by omega), z8 _ (by omega)]
    exact ⟨k1, k2, k3, k4, k5⟩
/-! a parish, by both -/
theorem tabD : ∀ D, D < 8 → sbit (Int32.ofNat D) - 1 = Int32.ofNat (2 ^ D - 1) ∧ ((1 : Int32) <<< (Int32.ofNat D &&& 31)) - 1 = Int32.ofNat (2 ^ D - 1) ∧ 2 ^ D - 1 < 2 ^ D := by decide +kernel
section SPA
variable {s t : zmem} {D Y C L W : Nat}
theorem p2_c (s : zmem) (L : Nat) : ∀ q, q ≠ 1 → (q < 17 ∨ 27 ≤ q) → sk_p2 s L q = s q := fun q h1 h2 => by
  have a : sk_p2 s L q = sread (tby s) L 400 (sread0 s) q := mset_cell _ h1
  have b : sread (tby s) L 400 (sread0 s) q = sread0 s q := sread_c (tby s) L (q := q) ⟨h1, h2⟩ 400 (sread0 s)
  rw [a, b]
  unfold sread0 sbegin
  rw [mset_cell _ h1, mset_cell _ h1, mset_cell _ h1, mset_cell _ (by omega), mset_cell _ (by omega), mset_cell _ (by omega), mset_cell _ (by omega)]
theorem par_frame (s : zmem) (L : Nat) : ∀ q, 57 ≤ q → (sk_parish s L).2 q = s q := fun q hq => by
  unfold sk_parish
  by_cases z : sk_p2 s L 1 3 = 0
  · rw [if_pos z]
    exact ((p4_at (sk_p2 s L)).1 q (by omega)).trans (p2_c s L q (by omega) (by omega))
  · rw [if_neg z]
    exact p2_c s L q (by omega) (by omega)
/-- the new parish, told alike -/
theorem par_PR {V T x m : zmem} {Yd Dd : Nat} (p4 : (∀ k, k < 8 → V 8 k = x 18 k) ∧ ∀ k, k < 7 → V 9 k = x 19 k ∧ V 10 k = x 20 k ∧ V 11 k = x 21 k ∧ V 12 k = 0 ∧ V 13 k = 9 ∧ V 14 k = -1 ∧ V 15 k = Int32.ofNat k ∧ V 16 k = sbit (x 17 1) - 1) (e : V 7 13 = 0 ∧ V 7 14 = 0 ∧ V 7 15 = T 58 73) (e73 : 0 ≤ T 58 73) (e72 : T 58 72 = 0) (p3 : ∀ j, j < 8 → T 63 j = m 63 (8 + j) ∧ T 58 j = m 60 (8 + j) ∧ T 58 (8 + j) = m 61 (8 + j) ∧ T 58 (16 + j) = m 62 (8 + j) ∧ T 58 (24 + j) = 0 ∧ T 58 (32 + j) = 9 ∧ T 58 (40 + j) = -1 ∧ T 58 (48 + j) = 0 ∧ T 58 (56 + j) = Int32.ofNat j ∧ T 58 (64 + j) = (1 <<< (m 64 3 &&& 31)) - 1) (d1 : Yd ≤ 8) (d2 : Dd ≤ 7) (d5 : x 17 1 = Int32.ofNat Dd) (d6 : m 64 3 = Int32.ofNat Dd) (d8 : ∀ k, k < Yd → x 18 k = m 60 (8 + k) ∧ 0 ≤ x 18 k ∧ x 18 k ≤ 99) (d9 : ∀ k, k < Dd → (x 19 k = m 61 (8 + k) ∧ 0 ≤ x 19 k ∧ x 19 k ≤ 99) ∧ (x 20 k = m 62 (8 + k) ∧ 0 ≤ x 20 k ∧ x 20 k ≤ 999) ∧ x 21 k = m 63 (8 + k) ∧ 0 ≤ x 21 k ∧ x 21 k ≤ 9) : PR V 7 T 0 Dd Yd := by
  obtain ⟨q8, q9⟩ := p4
  have td := tabD Dd (by omega)
  have z : ∀ o k, 0 + o + k = o + k := fun o k => by omega
  refine ⟨fun c hc k hk => ?_, fun k hk => ?_, fun k hk => ?_, ?_, ?_, ?_, fun j k hj hk => ?_⟩
  · rw [z]
    rcases hc with rfl | rfl | rfl | rfl | rfl | rfl | rfl | rfl
    · have hk : k < Yd := hk
      have a := q8 k (by omega)
      have b := (p3 k (by omega)).2.1
      have g := d8 k hk
      rw [show colO 1 + k = k from Nat.zero_add k, b, ← g.1]
      exact ⟨a, g.2⟩
    · have hk : k < Dd := hk
      have a := (q9 k (by omega)).1
      have b := (p3 k (by omega)).2.2.1
      have g := (d9 k hk).1
      rw [show colO 2 + k = 8 + k from rfl, b, ← g.1]
      exact ⟨a, g.2⟩
    · have hk : k < Dd := hk
      have a := (q9 k (by omega)).2.1
      have b := (p3 k (by omega)).2.2.2.1
      have g := (d9 k hk).2.1
      rw [show colO 3 + k = 16 + k from rfl, b, ← g.1]
      exact ⟨a, g.2.1, Int32.le_trans g.2.2 (by decide)⟩
    · have hk : k < Dd := hk
      have a := (q9 k (by omega)).2.2.2.1
      have b := (p3 k (by omega)).2.2.2.2.1
      rw [show colO 5 + k = 24 + k from rfl, b]
      exact ⟨a, by decide, by decide⟩
    · have hk : k < Dd := hk
      have a := (q9 k (by omega)).2.2.2.2.1
      have b := (p3 k (by omega)).2.2.2.2.2.1
      rw [show colO 6 + k = 32 + k from rfl, b]
      exact ⟨a, by decide, by decide⟩
    · have hk : k < Dd := hk
      have a := (q9 k (by omega)).2.2.2.2.2.1
      have b := (p3 k (by omega)).2.2.2.2.2.2.1
      rw [show colO 7 + k = 40 + k from rfl, b]
      exact ⟨a, Or.inl rfl⟩
    · have hk : k < Dd := hk
      have a := (q9 k (by omega)).2.2.2.2.2.2.1
      have b := (p3 k (by omega)).2.2.2.2.2.2.2.2.1
      rw [show colO 8 + k = 56 + k from rfl, b]
      exact ⟨a, k, hk, rfl⟩
    · have hk : k < Dd := hk
      have a := (q9 k (by omega)).2.2.2.2.2.2.2
      have b := (p3 k (by omega)).2.2.2.2.2.2.2.2.2
      rw [d6, td.2.1] at b
      rw [d5, td.1] at a
      rw [show colO 9 + k = 64 + k from rfl, b]
      exact ⟨a, 2 ^ Dd - 1, td.2.2, rfl⟩
  · have g := (d9 k hk).2.2
    rw [(p3 k (by omega)).1, ← g.1]
    exact ⟨(q9 k (by omega)).2.2.1, g.2⟩
  · have b := (p3 k (by omega)).2.2.2.2.2.2.2.1
    rw [z, b, e.1, bt_zero]
    exact ⟨by simp, Or.inl rfl⟩
  · rw [e.2.1, e72]
  · exact e.2.2
  · exact e73
  · intro _
    right
    rw [z]
    exact (p3 j (by omega)).2.2.2.2.2.2.1
theorem S_parish (h : RP s t D Y C L W) : ∃ F mR, rreadP F (rp0 t) mR ∧ (sk_parish s L).1 = (rk_parish mR).1 ∧ (∀ q, q < 57 → (rk_parish mR).2 q = t q) ∧ ∃ D' Y' C' L' W', RP (sk_parish s L).2 (rk_parish mR).2 D' Y' C' L' W' := by
  obtain ⟨g0, d0⟩ := par_start h
  obtain ⟨F, mR, hr, res⟩ := read_st 400 0 _ _ g0 d0 (by have := h.L1.2.2; omega)
  have k := (RK.p0 t).tr (RK.read F _ hr)
  obtain ⟨u, eu⟩ : ∃ u, u = sk_p2 s L := ⟨_, rfl⟩
  obtain ⟨x, ex⟩ : ∃ x, x = sread (tby s) L 400 (sread0 s) := ⟨_, rfl⟩
  rw [← ex] at res
  have u0 : u = mset x 1 1 0 := by rw [eu, ex]; rfl
  have uc := p2_c s L
  rw [← eu] at uc
  have ux : ∀ q, q ≠ 1 → u q = x q := fun q hq => by rw [u0, mset_cell _ hq]
  have u1 : ∀ j, j ≠ 1 → u 1 j = x 1 j := fun j hj => by rw [u0, mset_ne _ (by omega)]
  have u11 : u 1 1 = 0 := by rw [u0, mset_eq]
  have kq : ∀ q, q ≠ 57 → q ≠ 67 → (q < 60 ∨ 64 < q) → mR q = t q := fun q h1 h2 h3 => k.1 q ⟨h1, h2, h3⟩
  have k57 : ∀ j, (j < 13 ∨ 20 < j) → mR 57 j = t 57 j := k.2.1
  refine ⟨F, mR, hr, ?_⟩
  have hh := id h
  obtain ⟨hc, hr', hp, a1, a2, a3, a4, a5, a6, a7, a8⟩ := hh
  unfold sk_parish rk_parish
  rw [← eu]
  have r57 : ∀ j, j ≠ 12 → rpar0 mR 57 j = mR 57 j := fun j hj => mset_ne _ (by omega)
  rcases res with ⟨⟨P', g⟩, d⟩ | b
  · have c3 : u 1 3 = 0 := (u1 3 (by decide)).trans g.2.2.2.2.1
    have c16 : rpar0 mR 57 16 ≤ 0 := by rw [r57 16 (by decide), g.2.2.2.2.2.1]; decide
    rw [if_pos c3, if_pos c16]
    have p3 := p3_at mR
    have p4 := p4_at u
    generalize rpar3 (rpar2 (rpar0 mR)) = T at p3 ⊢
    generalize sk_p4 u = V at p4 ⊢
    obtain ⟨t1, ⟨t2, t3⟩, ⟨t4, t5, t6, t7, t8, t9⟩, ⟨ta, tb⟩, ⟨tc, td⟩, te⟩ := p3
    obtain ⟨v1, ⟨v2, v3, v4⟩, ⟨v5, v6, v7, v8⟩, ⟨v9, va, vb⟩, vc⟩ := p4
    rw [ux 18 (by decide), ux 19 (by decide), ux 20 (by decide), ux 21 (by decide), ux 17 (by decide)] at vc
    rw [ux 17 (by decide)] at v5 v6 v7 v8
    obtain ⟨Yd, Dd, d1, d2, d3, d4, d5, d6, d7, d8, d9⟩ := d
    refine ⟨?_, fun q hq => ?_, Dd, Yd, C, 0, 0, ?_⟩
    · show V 7 1 = T 64 1
      rw [v6, t3, d5, d6]
    · show T q = t q
      rw [t1 q (by omega) (by omega) (by omega) (by omega), kq q (by omega) (by omega) (by omega)]
    · show RP V T Dd Yd C 0 0
      refine ⟨⟨v6.trans d5, d2, v5.trans d3, d1, ?_, hc.2.2.2.2.2.1, ?_, Nat.zero_le _, v2, Nat.zero_le _⟩, ⟨t3.trans d6, d2, t2.trans d4, d1, ?_, hr'.2.2.2.2.2.1, t6, Nat.zero_le _, t7, Nat.zero_le _⟩, ?_, ?_, fun j hj => ?_, fun j hj => absurd hj (Nat.not_lt_zero j), fun j hj => absurd hj (Nat.not_lt_zero j), ?_, ⟨v3.trans ta.symm, v4.trans tb.symm⟩, fun z => absurd v3 z, fun z => absurd v4 z⟩
      · rw [v1 3 (by decide), uc 3 (by decide) (by decide)]; exact hc.2.2.2.2.1
      · rw [v1 1 (by decide)]; exact u11
      · rw [t8, k57 10 (by decide)]; exact hr'.2.2.2.2.1
      · have e73 : T 58 73 = t 58 73 := by rw [td, kq 58 (by decide) (by decide) (by decide)]
        refine par_PR (x := x) (m := mR) vc ⟨v9, va, ?_⟩ ?_ tc te d1 d2 d5 d6 d8 d9
        · rw [vb, uc 7 (by decide) (by decide), e73]
          exact hp.2.2.2.2.1
        · rw [e73]
          exact hp.2.2.2.2.2.1
      · rw [v7, v8, t4, t5]
        rcases d7 with ⟨e1, e2, e3, e4, e5⟩ | ⟨e1, e2, e3, e4, e5⟩
        · rw [if_neg (fun q => q e1), if_neg (fun q => q e1), e4, e5]
          decide
        · rw [if_pos e1, if_pos e1]
          exact ⟨e3, e4, e5.1, Int32.le_trans e5.2.1 (by decide), e5.2.2.1, Int32.le_trans e5.2.2.2 (by decide)⟩
      · rw [v1 4 (by decide), uc 4 (by decide) (by decide), t1 65 (by decide) (by decide) (by decide) (by decide), kq 65 (by decide) (by decide) (by decide)]
        exact a2 j hj
      · rw [v1 1 (by decide), u1 4 (by decide), t9]
        exact g.2.2.2.2.2.2
  · have nz : ¬ mR 57 16 = 0 := fun z => by have := b.1; rw [z] at this; exact absurd this (by decide)
    have c3 : ¬ u 1 3 = 0 := by rw [u1 3 (by decide), b.2.1]; exact nz
    have c16 : ¬ rpar0 mR 57 16 ≤ 0 := by rw [r57 16 (by decide)]; exact Int32.not_le.mpr b.1
    rw [if_neg c3, if_neg c16]
    have rq : ∀ q, q ≠ 57 → rpar0 mR q = mR q := fun q hq => mset_cell _ hq
    refine ⟨?_, fun q hq => ?_, D, Y, C, 0, W, ?_⟩
    · show -10 - u 1 3 = -10 - rpar0 mR 57 16
      rw [r57 16 (by decide), u1 3 (by decide), b.2.1]
    · show rpar0 mR q = t q
      rw [rq q (by omega), kq q (by omega) (by omega) (by omega)]
    · show RP u (rpar0 mR) D Y C 0 W
      refine h.text (fun q hq => uc q (by omega) (by omega)) (fun q hq => ?_) (fun j hj => ?_) (fun j hj => ?_) (fun j hj => ?_) ⟨?_, ?_, h.hC⟩ (fun j hj => ?_) ⟨u11, mset_eq _ _ _ _⟩ ?_
      · rw [rq q (by omega), kq q (by omega) (by omega) (by omega)]
      · rw [rq 63 (by decide)]; exact k.2.2.1 63 j (by decide) (by decide) hj
      · rw [rq 64 (by decide)]; exact k.2.2.2 j hj
      · rw [r57 j (by omega), k57 j (by omega)]
      · rw [uc 3 (by decide) (by decide)]; exact hc.2.2.2.2.1
      · rw [r57 10 (by decide), k57 10 (by decide)]; exact hr'.2.2.2.2.1
      · rw [uc 4 (by decide) (by decide), rq 65 (by decide), kq 65 (by decide) (by decide) (by decide)]; exact a2 j hj
      · rw [u1 4 (by decide), r57 17 (by decide)]; exact b.2.2
end SPA
theorem P_parish : PB MX6_parish MX7_parish [] Rel := by
  refine PB_mk (d6 := 7) (d7 := 4) (by decide) (by decide) (fun m D Y C L W hm => ?_)
  have c6 := c6_parish hm.c
  have hk := par_frame m L
  have hm1 : RP m (sk_parish m L).2 D Y C L W := hm.congr (fun _ _ => rfl) hk
  obtain ⟨F, mR, hr, e, k7, r⟩ := S_parish hm1
  have c7 := c7_parish (hm1.L1.2.1) (hm1.L1.2.2) hr
  rw [← e] at c7
  exact ⟨(sk_parish m L).1, (sk_parish m L).2, (rk_parish mR).2, c6, hk, k7, fun _ => ⟨c7, r⟩⟩
/-! custom, by both -/
theorem sall_iff {c : Nat → Bool} : ∀ n k, sall c n k = true ↔ ∀ i, k ≤ i → i < k + n → c i = true := by
  intro n
  induction n with
  | zero => intro k; exact ⟨fun _ i h1 h2 => by omega, fun _ => rfl⟩
  | succ n ih =>
    intro k
    show (if c k = true then sall c n (k + 1) else false) = true ↔ _
    by_cases z : c k = true
    · rw [if_pos z, ih (k + 1)]
      refine ⟨fun h i h1 h2 => ?_, fun h i h1 h2 => h i (by omega) (by omega)⟩
      by_cases e : i = k
      · rw [e]; exact z
      · exact h i (by omega) (by omega)
    · rw [if_neg z]
      exact ⟨fun h => absurd h (by decide), fun h => absurd (h k (Nat.le_refl _) (by omega)) z⟩
/-- the draft of a custom, as both hold it -/
def DC (s m : zmem) (T : Nat) (kd : Int32) : Prop := KI T kd ∧ s 5 1 = Int32.ofNat T ∧ (∀ k, k < T → s 6 k = m 67 k ∧ ∃ j, j < 4 ∧ m 67 k = Int32.ofNat j) ∧ ∀ c, c < 4 → (bt kd c = true ↔ ∃ k, k < T ∧ m 67 k = Int32.ofNat c)
section CU
variable {s m : zmem} {t : Int32 → Int32} {L P T : Nat} {kd : Int32}
theorem DC.off (d : DC s m T kd) {s' m' : zmem} (h5 : s' 5 = s 5) (h6 : s' 6 = s 6) (h67 : m' 67 = m 67) : DC s' m' T kd := by
  obtain ⟨d1, d2, d3, d4⟩ := d
  exact ⟨d1, by rw [h5]; exact d2, by rw [h6, h67]; exact d3, by rw [h67]; exact d4⟩
theorem DC.counts (d : DC s m T kd) {c : Nat} (hc : c < 4) : scounts s 5 T (Int32.ofNat c) = if bt kd c = true then 1 else 0 := by
  obtain ⟨d1, d2, d3, d4⟩ := d
  have hT := d1.le
  have i : sall (fun k => decide (¬ aat 4 (s (5 + 1)) (Int32.ofNat k) = Int32.ofNat c)) T 0 = true ↔ ¬ bt kd c = true := by
    rw [sall_iff, d4 c hc]
    refine ⟨fun h ⟨k, hk, e⟩ => ?_, fun h k _ hk => ?_⟩
    · have := of_decide_eq_true (h k (Nat.zero_le _) (by omega))
      rw [aat_k (by omega) (by decide)] at this
      exact this ((d3 k hk).1.trans e)
    · rw [decide_eq_true_eq, aat_k (by omega) (by decide)]
      exact fun e => h ⟨k, by omega, (d3 k (by omega)).1.symm.trans e⟩
  unfold scounts
  by_cases z : bt kd c = true
  · rw [if_pos z, if_neg (fun q => i.mp q z)]
  · rw [if_neg z, if_pos (i.mpr z)]
theorem skind_len (h : GS s m t L P) (hP : sblk t L P = P) (hk : ¬ skind t L P = -1) : P + 3 ≤ swend t L P := by
  have l3 := fun z => word_len h hP (i := 3) (by decide) z
  have l4 := fun z => word_len h hP (i := 4) (by decide) z
  have l5 := fun z => word_len h hP (i := 5) (by decide) z
  have l6 := fun z => word_len h hP (i := 6) (by decide) z
  rw [show zln 3 = 4 from rfl] at l3
  rw [show zln 4 = 5 from rfl] at l4
  rw [show zln 5 = 5 from rfl] at l5
  rw [show zln 6 = 3 from rfl] at l6
  by_cases c3 : swordi t L P 3 = 0
  · by_cases c4 : swordi t L P 4 = 0
    · by_cases c5 : swordi t L P 5 = 0
      · by_cases c6 : swordi t L P 6 = 0
        · refine absurd ?_ hk
          unfold skind
          rw [if_neg (fun q => q c3), if_neg (fun q => q c4), if_neg (fun q => q c5), if_neg (fun q => q c6)]
        · have := l6 c6; omega
      · have := l5 c5; omega
    · have := l4 c4; omega
  · have := l3 c3; omega
theorem kind_eq (h : GS s m t L P) (hP : sblk t L P = P) : rkind (rtw m) = skind t L P := by
  have b3 : rws (rtw m) 4 114 97 110 107 0 = swordi t L P 3 := word_eq h hP rfl (by decide) w3_tab
  have b4 : rws (rtw m) 5 119 97 105 116 115 = swordi t L P 4 := word_eq h hP rfl (by decide) w4_tab
  have b5 : rws (rtw m) 5 103 105 102 116 115 = swordi t L P 5 := word_eq h hP rfl (by decide) w5_tab
  have b6 : rws (rtw m) 3 107 105 110 0 0 = swordi t L P 6 := word_eq h hP rfl (by decide) w6_tab
  unfold rkind skind
  rw [b3, b4, b5, b6]
  by_cases c3 : swordi t L P 3 = 0
  · rw [if_pos c3, if_neg (show ¬ ¬ swordi t L P 3 = 0 from fun q => q c3)]
    by_cases c4 : swordi t L P 4 = 0
    · rw [if_pos c4, if_neg (show ¬ ¬ swordi t L P 4 = 0 from fun q => q c4)]
      by_cases c5 : swordi t L P 5 = 0
      · rw [if_pos c5, if_neg (show ¬ ¬ swordi t L P 5 = 0 from fun q => q c5)]
        by_cases c6 : swordi t L P 6 = 0
        · rw [if_pos c6, if_neg (show ¬ ¬ swordi t L P 6 = 0 from fun q => q c6)]
        · rw [if_neg c6, if_pos c6]
      · rw [if_neg c5, if_pos c5]
    · rw [if_neg c4, if_pos c4]
  · rw [if_neg c3, if_pos c3]
/-- a clause more -/
theorem DC.add (d : DC s m T kd) {c : Nat} (hc : c < 4) (g : ¬ bt kd c = true) {s' m' : zmem} (h5 : s' 5 1 = Int32.ofNat (T + 1)) (h6 : ∀ k, s' 6 k = if k = T then Int32.ofNat c else s 6 k) (h67 : ∀ k, m' 67 k = if k = T then Int32.ofNat c else m 67 k) : DC s' m' (T + 1) (kd ||| (1 <<< (Int32.ofNat c &&& 31))) := by
  obtain ⟨d1, d2, d3, d4⟩ := d
  refine ⟨d1.step hc (by rw [rhas_bt kd (by omega), if_neg g]), h5, fun k hk => ?_, fun c' hc' => ?_⟩
  · rw [h6, h67]
    by_cases e : k = T
    · rw [if_pos e, if_pos e]; exact ⟨rfl, c, hc, rfl⟩
    · rw [if_neg e, if_neg e]; exact d3 k (by omega)
  · rw [bt_or, bt_shl c (by omega) c' (by omega), Bool.or_eq_true, d4 c' hc', decide_eq_true_eq]
    constructor
    · rintro (⟨k, hk, e⟩ | e)
      · exact ⟨k, by omega, by rw [h67, if_neg (by omega)]; exact e⟩
      · exact ⟨T, by omega, by rw [h67, if_pos rfl, e]⟩
    · rintro ⟨k, hk, e⟩
      rw [h67] at e
      by_cases z : k = T
      · rw [if_pos z] at e
        exact Or.inr (ofNat_inj e (by omega) (by omega))
      · rw [if_neg z] at e
        exact Or.inl ⟨k, by omega, e⟩
/-- a clause of a custom -/
theorem cus_st (h : GS s m t L P) (hP : sblk t L P = P) (d : DC s m T kd) : ∃ T' kd' m', rct T kd (rtw m) = (T', kd', m') ∧ (((∃ P', P + 2 ≤ P' ∧ GS (scusc s t L P T) m' t L P') ∧ DC (scusc s t L P T) m' T' kd') ∨ BS (scusc s t L P T) m') := by
  obtain ⟨g, w14, w15, wc, wf, le1, le2⟩ := word_st h hP
  have ek := kind_eq h hP
  have kor := rkind_or (rtw m)
  rw [ek] at kor
  have w := g.want (g := rcg1 (rtw m)) (num := 1) (wh := rtw m 57 14) (by decide)
  have e1 : rcw1 (rtw m) = rwant (rtw m) (rcg1 (rtw m)) 1 (rtw m 57 14) := rfl
  have eg1 : rcg1 (rtw m) = if skind t L P < 0 then 0 else 1 := by unfold rcg1; rw [ek]
  -- a fault told at the word
  have bl : ∀ (x : zmem) (n : Int32), BS (sblame (spl s (swend t L P)) n (Int32.ofNat P)) x → BS (sblame s n (Int32.ofNat P)) x := fun x n b => by
    refine b.keep (fun _ => ?_)
    have z : spl s (swend t L P) 1 3 = 0 := g.2.2.2.2.1
    unfold sblame
    rw [if_pos z, if_pos h.2.2.2.2.1]
    exact ⟨by rw [mset_ne _ (by decide), mset_eq, mset_ne _ (by decide), mset_eq], by rw [mset_eq, mset_eq]⟩
  rcases kor with k1 | ⟨c, hc, kc⟩
  · have g0 : rcg1 (rtw m) = 0 := by rw [eg1, k1]; decide
    refine ⟨T, kd, rend (rcw1 (rtw m)), ?_, Or.inr ?_⟩
    · unfold rct
      rw [if_pos (w.1.mpr g0)]
    · have b := w.2.2 g0
      rw [← e1] at b
      rw [b.fin]
      have es : scusc s t L P T = sblame s 1 (Int32.ofNat P) := by
        unfold scusc smk
        rw [if_neg (fun q => q k1), if_pos k1]
      rw [es]
      rw [w14] at b
      exact bl _ _ b
  · have n1 : ¬ skind t L P = -1 := by
      rw [kc]
      intro q
      have tab : ∀ c, c < 4 → ¬ Int32.ofNat c = -1 := by decide
      exact tab c hc q
    have g1 : rcg1 (rtw m) = 1 := by rw [eg1, kc, if_neg (n_lt0 (by omega))]
    have c1 : rcw1 (rtw m) = rtw m := by rw [e1]; exact w.2.1 (by rw [g1]; decide)
    have n2 : ¬ rwantr (rtw m) (rcg1 (rtw m)) 1 (rtw m 57 14) = 0 := fun q => by have := w.1.mp q; rw [g1] at this; exact absurd this (by decide)
    have w2 := g.want (g := rcg2 (rtw m) kd) (num := 3) (wh := rtw m 57 14) (by decide)
    have eg2 : rcg2 (rtw m) kd = if bt kd c = true then 0 else 1 := by
      unfold rcg2
      rw [ek, kc, rhas_bt kd (by omega)]
      by_cases z : bt kd c = true
      · rw [if_pos z, if_pos z]; decide
      · rw [if_neg z, if_neg z]; decide
    have e2 : rcw2 (rtw m) kd = rwant (rtw m) (rcg2 (rtw m) kd) 3 (rtw m 57 14) := by unfold rcw2; rw [c1]
    have mk : smk s t L P = spl s (swend t L P) := by unfold smk; rw [if_neg n1]
    have dm : DC (spl s (swend t L P)) (rtw m) T kd := d.off (mset_cell _ (by decide)) (mset_cell _ (by decide)) (wc 67 (by decide))
    have cn := dm.counts hc
    have es : scusc s t L P T = if scounts (spl s (swend t L P)) 5 T (Int32.ofNat c) = 0 then sstop (sadd (spl s (swend t L P)) 5 (Int32.ofNat c)) t L (swend t L P) else sblame (spl s (swend t L P)) 3 (Int32.ofNat P) := by
      unfold scusc
      rw [if_pos n1, mk, kc]
    rw [es, cn]
    by_cases z : bt kd c = true
    · have g0 : rcg2 (rtw m) kd = 0 := by rw [eg2, if_pos z]
      refine ⟨T, kd, rend (rcw2 (rtw m) kd), ?_, Or.inr ?_⟩
      · unfold rct
        rw [if_neg n2, c1, if_pos (w2.1.mpr g0)]
      · have b := w2.2.2 g0
        rw [← e2] at b
        rw [b.fin, if_pos z, if_neg (by decide)]
        rw [w14] at b
        exact b
    · have g0 : rcg2 (rtw m) kd = 1 := by rw [eg2, if_neg z]
      have e3 : rcw2 (rtw m) kd = rtw m := by rw [e2]; exact w2.2.1 (by rw [g0]; decide)
      have n3 : ¬ rwantr (rtw m) (rcg2 (rtw m) kd) 3 (rtw m 57 14) = 0 := fun q => by have := w2.1.mp q; rw [g0] at this; exact absurd this (by decide)
      have st := d.1.step hc (by rw [rhas_bt kd (by omega), if_neg z])
      have hT := st.le
      refine ⟨T + 1, kd ||| (1 <<< (Int32.ofNat c &&& 31)), rend (mset (rtw m) 67 T (Int32.ofNat c)), ?_, ?_⟩
      · unfold rct
        rw [if_neg n2, c1, if_neg n3, e3, ek, kc]
      · rw [if_neg z, if_pos rfl]
        have a5 : spl s (swend t L P) 5 1 = Int32.ofNat T := dm.2.1
        have ea : sadd (spl s (swend t L P)) 5 (Int32.ofNat c) = mset (mset (spl s (swend t L P)) 6 T (Int32.ofNat c)) 5 1 (Int32.ofNat (T + 1)) := by
          have e0 : sadd0 (spl s (swend t L P)) 5 (Int32.ofNat c) = mset (spl s (swend t L P)) 6 T (Int32.ofNat c) := by
            unfold sadd0
            rw [a5, aput_k (by omega) (by decide)]
          unfold sadd
          rw [e0, mset_cell (a := 5) (k := 6) _ (by decide), a5, nat_succ]
        have gg : GS (sadd (spl s (swend t L P)) 5 (Int32.ofNat c)) (mset (rtw m) 67 T (Int32.ofNat c)) t L (swend t L P) := by
          rw [ea]
          exact ((g.off (by decide) (by decide)).off (by decide) (by decide)).rcell (by decide) (by decide)
        have ln := skind_len h hP n1
        rcases stop_st gg with ⟨g3, gp⟩ | b
        · left
          refine ⟨⟨_, by omega, g3⟩, ?_⟩
          have sc : ∀ q, q ≠ 1 → sstop (sadd (spl s (swend t L P)) 5 (Int32.ofNat c)) t L (swend t L P) q = sadd (spl s (swend t L P)) 5 (Int32.ofNat c) q := fun q hq => stop_c _ _ _ _ hq
          have r67 := (rend_c (mset (rtw m) 67 T (Int32.ofNat c))).1 67 (by decide)
          refine dm.add hc z ?_ (fun k => ?_) (fun k => ?_)
          · rw [sc 5 (by decide), ea, mset_eq]
          · rw [sc 6 (by decide), ea, mset_cell _ (by decide)]
            by_cases e : k = T
            · rw [if_pos e, e, mset_eq]
            · rw [if_neg e, mset_ne _ (by omega)]
          · rw [r67]
            by_cases e : k = T
            · rw [if_pos e, e, mset_eq]
            · rw [if_neg e, mset_ne _ (by omega)]
        · exact Or.inr b
/-- all clauses of a custom -/
theorem cread_st : ∀ n P s m T kd, GS s m t L P → DC s m T kd → L - P < 2 * n → ∃ (F tR : Nat) (mR : zmem), rcusP F (T, kd, m) tR mR ∧ (((∃ P', GS (scread t L n s) mR t L P') ∧ ∃ kR, DC (scread t L n s) mR tR kR) ∨ BS (scread t L n s) mR) := by
  intro n
  induction n with
  | zero => intro P s m T kd _ _ h; omega
  | succ n ih =>
    intro P s m T kd h d hn
    have b := h.blk
    have hb := h.bd
    have go := h.go
    have eh := h.here
    have rc := rat_c m (rblk m)
    have dg : DC (spl s (sblk t L P)) (rat m (rblk m)) T kd := d.off (mset_cell _ (by decide)) (mset_cell _ (by decide)) (rc.1 67 (by decide))
    have er : ∀ F tR mR, rcusP (F + 1) (T, kd, m) tR mR = (if ¬ m 57 16 = 0 then tR = T ∧ mR = m else if rhr m < 0 then tR = T ∧ mR = rat m (rblk m) else rcusP F (rct T kd (rtw (rat m (rblk m)))) tR mR) := fun _ _ _ => rfl
    have es : scread t L (n + 1) s = if sgo s t L (spo s) = 0 then spl s (sblk t L (spo s)) else scread t L n (scusc (spl s (sblk t L (spo s))) t L (sblk t L (spo s)) (sco s)) := rfl
    rw [es, spo_eq h.1, sco_eq d.2.1 (by have := d.1.le; omega)]
    have esg : sgo s t L P = if Int32.ofNat L ≤ Int32.ofNat (sblk t L P) then 0 else 1 := by unfold sgo; rw [if_neg (fun q => q h.2.2.2.2.1)]
    rw [esg]
    by_cases e : sblk t L P = L
    · rw [if_pos (show Int32.ofNat L ≤ Int32.ofNat (sblk t L P) by rw [e]; exact Int32.le_refl _), if_pos rfl]
      refine ⟨1, T, rat m (rblk m), ?_, Or.inl ⟨⟨_, go⟩, kd, dg⟩⟩
      rw [er, if_neg (fun q => q h.2.2.2.2.2.1), if_pos (by rw [eh, e, h.2.2.2.1.2]; decide)]
      exact ⟨rfl, rfl⟩
    · have e9 : ¬ Int32.ofNat L ≤ Int32.ofNat (sblk t L P) := fun q => by have := (n_le (by omega) (by omega)).mp q; omega
      rw [if_neg e9, if_neg (show ¬ (1 : Int32) = 0 by decide)]
      have hp : ¬ rhr m < 0 := by
        rw [eh, (h.2.2.2.1.1 (sblk t L P) (by omega)).1]
        exact Int32.not_lt.mpr (h.2.2.2.1.1 (sblk t L P) (by omega)).2
      obtain ⟨T', kd', m', e1, e2⟩ := cus_st go (sblk_2 hb.2) dg
      rcases e2 with ⟨⟨P', p1, p2⟩, d2⟩ | q
      · obtain ⟨F, tR, mR, r1, r2⟩ := ih P' _ _ T' kd' p2 d2 (by have := p2.bd; omega)
        exact ⟨F + 1, tR, mR, by rw [er, if_neg (fun q => q h.2.2.2.2.2.1), if_neg hp, e1]; exact r1, r2⟩
      · -- a fault: both stop
        have nz : ¬ m' 57 16 = 0 := fun z => by have := q.1; rw [z] at this; exact absurd this (by decide)
        refine ⟨2, T', m', ?_, Or.inr ?_⟩
        · rw [er, if_neg (fun q => q h.2.2.2.2.2.1), if_neg hp, e1]
          show if ¬ m' 57 16 = 0 then _ else _
          rw [if_pos nz]
          exact ⟨rfl, rfl⟩
        · have e2 : ∀ (n : Nat) (x : zmem), ¬ x 1 3 = 0 → KF x (scread t L n x) := fun n x hx => by
            cases n with
            | zero => exact KF.rf x
            | succ n =>
              have : scread t L (n + 1) x = spl x (sblk t L (spo x)) := by
                show (if sgo x t L (spo x) = 0 then spl x (sblk t L (spo x)) else _) = _
                rw [if_pos (by unfold sgo; rw [if_pos hx])]
              rw [this]
              exact KF.pl _ _
          exact q.keep (e2 n _ (by rw [q.2.1]; exact nz))
end CU
/-! what custom's reading leaves alone -/
theorem RK.p3 {m m' : zmem} {x : Nat × Int32 × zmem} {T : Nat} {kd : Int32} (e : x = (T, kd, m')) (h : RK m m') : RK m x.2.2 := by
  subst e
  exact h
theorem RK.ct (T : Nat) (kd : Int32) (m : zmem) : RK m (rct T kd m).2.2 := by
  have a : RK m (rcw1 m) := by unfold rcw1; exact RK.want m _ _ _
  have b : RK m (rcw2 m kd) := by unfold rcw2; exact a.tr (RK.want _ _ _ _)
  by_cases h1 : rwantr m (rcg1 m) 1 (m 57 14) = 0
  · have e : rct T kd m = (T, kd, rend (rcw1 m)) := by rw [rct, if_pos h1]
    exact RK.p3 e (a.tr (RK.fin (rcw1 m)))
  · by_cases h2 : rwantr (rcw1 m) (rcg2 m kd) 3 (rcw1 m 57 14) = 0
    · have e : rct T kd m = (T, kd, rend (rcw2 m kd)) := by rw [rct, if_neg h1, if_pos h2]
      exact RK.p3 e (b.tr (RK.fin (rcw2 m kd)))
    · have e : rct T kd m = (T + 1, kd ||| (1 <<< (rkind m &&& 31)), rend (mset (rcw2 m kd) 67 T (rkind m))) := by rw [rct, if_neg h1, if_neg h2]
      exact RK.p3 e ((b.tr (RK.c67 (rcw2 m kd) T (rkind m))).tr (RK.fin (mset (rcw2 m kd) 67 T (rkind m))))
theorem RK.cread {tR : Nat} {mR : zmem} : ∀ F T kd m, rcusP F (T, kd, m) tR mR → RK m mR := by
  intro F
  induction F with
  | zero => intro T kd m h; exact h.elim
  | succ F ih =>
    intro T kd m h
    by_cases c1 : ¬ m 57 16 = 0
    · obtain ⟨-, h2⟩ := rcus1 h c1
      rw [h2]; exact RK.rf m
    · by_cases c2 : rhr m < 0
      · obtain ⟨-, h2⟩ := rcus2 h c1 c2
        rw [h2]; exact RK.ra _ _
      · have h3 := rcus3 h c1 c2
        have a : RK m (rct T kd (rtw (rat m (rblk m)))).2.2 := ((RK.ra m (rblk m)).tr (RK.word (rat m (rblk m)))).tr (RK.ct T kd (rtw (rat m (rblk m))))
        generalize rct T kd (rtw (rat m (rblk m))) = y at h3 a
        obtain ⟨y1, y2, y3⟩ := y
        exact a.tr (ih y1 y2 y3 h3)
def rdK (q : Nat) : Prop := q ≠ 1 ∧ q ≠ 5 ∧ q ≠ 6
theorem scusc_c (s : zmem) (t : Int32 → Int32) (L P C : Nat) {q : Nat} (h : rdK q) : scusc s t L P C q = s q := by
  obtain ⟨h1, h5, h6⟩ := h
  have k : smk s t L P q = s q := by
    unfold smk
    by_cases z : skind t L P = -1
    · rw [if_pos z]
    · rw [if_neg z]; exact mset_cell _ h1
  unfold scusc
  by_cases z : ¬ skind t L P = -1
  · rw [if_pos z]
    by_cases y : scounts (smk s t L P) 5 C (skind t L P) = 0
    · rw [if_pos y, stop_c _ _ _ _ h1]
      unfold sadd sadd0
      rw [mset_cell _ h5, aput_ne h6]
      exact k
    · rw [if_neg y, blame_c _ _ _ h1]; exact k
  · rw [if_neg z, blame_c _ _ _ h1]; exact k
theorem scread_c (t : Int32 → Int32) (L : Nat) {q : Nat} (h : rdK q) : ∀ n s, scread t L n s q = s q := by
  intro n
  induction n with
  | zero => intro s; rfl
  | succ n ih =>
    intro s
    have es : scread t L (n + 1) s = if sgo s t L (spo s) = 0 then spl s (sblk t L (spo s)) else scread t L n (scusc (spl s (sblk t L (spo s))) t L (sblk t L (spo s)) (sco s)) := rfl
    rw [es]
    by_cases z : sgo s t L (spo s) = 0
    · rw [if_pos z]; exact mset_cell _ h.1
    · rw [if_neg z, ih, scusc_c _ _ _ _ _ h]; exact mset_cell _ h.1
theorem scopy4_at {q p n : Nat} (hn : n ≤ 8) (hqp : q ≠ p) : ∀ r k m, k + r ≤ 8 → (∀ a, a ≠ p → scopy q n p n r k m a = m a) ∧ ∀ i, scopy q n p n r k m p i = if k ≤ i ∧ i < k + r ∧ i < n then m q i else m p i := by
  intro r
  induction r with
  | zero =>
    intro k m _
    refine ⟨fun _ _ => rfl, fun i => ?_⟩
    rw [if_neg (by omega)]
    rfl
  | succ r ih =>
    intro k m hk
    obtain ⟨h1, h2⟩ := ih (k + 1) (aput m p n (Int32.ofNat k) (aat n (m q) (Int32.ofNat k))) (by omega)
    refine ⟨fun a ha => (h1 a ha).trans (aput_ne ha), fun i => ?_⟩
    show scopy q n p n r (k + 1) (aput m p n (Int32.ofNat k) (aat n (m q) (Int32.ofNat k))) p i = _
    rw [h2 i, aput_ne hqp]
    by_cases e1 : k + 1 ≤ i ∧ i < k + 1 + r ∧ i < n
    · rw [if_pos e1, if_pos (by omega)]
    · rw [if_neg e1]
      by_cases e2 : k < n
      · rw [aput_k e2 (by omega), aat_k e2 (by omega)]
        by_cases e3 : i = k
        · subst e3; rw [mset_eq, if_pos (by omega)]
        · rw [mset_ne _ (by omega), if_neg (by omega)]
      · rw [aput_out (by omega) (by omega), if_neg (by omega)]
theorem rccs_at : ∀ n k m, (∀ q, q ≠ 65 → sfold rcc n k m q = m q) ∧ ∀ i, sfold rcc n k m 65 i = if k ≤ i ∧ i < k + n then m 67 i else m 65 i := by
  intro n
  induction n with
  | zero =>
    intro k m
    refine ⟨fun _ _ => rfl, fun i => ?_⟩
    rw [if_neg (by omega)]
    rfl
  | succ n ih =>
    intro k m
    obtain ⟨h1, h2⟩ := ih (k + 1) (rcc k m)
    have e : sfold rcc (n + 1) k m = sfold rcc n (k + 1) (rcc k m) := rfl
    rw [e]
    refine ⟨fun q hq => (h1 q hq).trans (mset_cell _ hq), fun i => ?_⟩
    rw [h2 i]
    have c67 : rcc k m 67 i = m 67 i := by unfold rcc; rw [mset_cell _ (by decide)]
    rw [c67]
    by_cases e1 : k + 1 ≤ i ∧ i < k + 1 + n
    · rw [if_pos e1, if_pos (by omega)]
    · rw [if_neg e1]
      unfold rcc
      by_cases e2 : i = k
      · subst e2; rw [mset_eq, if_pos (by omega)]
      · rw [mset_ne _ (by omega), if_neg (by omega)]
section SCU
variable {s t : zmem} {D Y C L W : Nat}
theorem c2_c (s : zmem) (L : Nat) : ∀ q, q ≠ 1 → q ≠ 5 → q ≠ 6 → sk_c2 s L q = s q := fun q h1 h5 h6 => by
  have a : sk_c2 s L q = scread (tby s) L 400 (scread0 s) q := mset_cell _ h1
  have b : scread (tby s) L 400 (scread0 s) q = scread0 s q := scread_c (tby s) L (q := q) ⟨h1, h5, h6⟩ 400 (scread0 s)
  rw [a, b]
  unfold scread0 sbegin
  rw [mset_cell _ h1, mset_cell _ h1, mset_cell _ h1, mset_cell _ h5]
theorem copyC_at (u : zmem) : (∀ q, q ≠ 3 → q ≠ 4 → scopyC 5 3 u q = u q) ∧ scopyC 5 3 u 3 1 = u 5 1 ∧ ∀ i, i < 4 → scopyC 5 3 u 4 i = u 6 i := by
  obtain ⟨h1, h2⟩ := scopy4_at (q := 5 + 1) (p := 3 + 1) (n := 4) (by decide) (by decide) 8 0 u (by decide)
  unfold scopyC
  generalize scopy (5 + 1) 4 (3 + 1) 4 8 0 u = x at h1 h2 ⊢
  refine ⟨fun q h3 h4 => ?_, ?_, fun i hi => ?_⟩
  · rw [mset_cell _ h3]; exact h1 q h4
  · rw [mset_eq, h1 5 (by decide)]
  · rw [mset_cell _ (by decide)]
    have := h2 i
    rw [if_pos (by omega)] at this
    exact this
theorem cus_frame (s : zmem) (L : Nat) : ∀ q, 57 ≤ q → (sk_custom s L).2 q = s q := fun q hq => by
  unfold sk_custom
  by_cases z : sk_c2 s L 1 3 = 0
  · rw [if_pos z]
    exact ((copyC_at (sk_c2 s L)).1 q (by omega) (by omega)).trans (c2_c s L q (by omega) (by omega) (by omega))
  · rw [if_neg z]
    exact c2_c s L q (by omega) (by omega) (by omega)
theorem cus_start (h : RP s t D Y C L W) : GS (scread0 s) (rstart t) (tby s) L 0 ∧ DC (scread0 s) (rstart t) 0 0 := by
  obtain ⟨l1, l2, l3⟩ := h.L1
  have ts : TS (scread0 s) (tby s) L 0 := by
    unfold scread0
    refine TS.begin (tby_eq ?_ ?_) ?_ l3
    · rw [mset_cell _ (by decide)]
    · rw [mset_cell _ (by decide)]
    · rw [mset_cell _ (by decide)]; exact l1
  refine ⟨⟨ts, ?_, ?_, ?_, ?_, ?_, ?_⟩, ⟨0, by decide, by decide, by decide⟩, ?_, fun k hk => absurd hk (Nat.not_lt_zero k), fun c hc => ?_⟩
  · rw [← l2]; simp [rstart, mset]
  · simp [rstart, mset]
  · have e66 : rstart t 66 = t 66 := by funext k; simp [rstart, mset]
    rw [e66]
    exact txt_of h
  · simp [scread0, sbegin, mset]
  · simp [rstart, mset]
  · simp [scread0, sbegin, rstart, mset]
  · simp [scread0, sbegin, mset]
  · rw [bt_zero]
    exact ⟨fun q => absurd q (by decide), fun ⟨k, hk, _⟩ => absurd hk (Nat.not_lt_zero k)⟩
theorem S_custom (h : RP s t D Y C L W) : ∃ F tR mR, rcusP F (0, 0, rstart t) tR mR ∧ (sk_custom s L).1 = (rk_custom tR mR).1 ∧ (∀ q, q < 57 → (rk_custom tR mR).2 q = t q) ∧ ∃ D' Y' C' L' W', RP (sk_custom s L).2 (rk_custom tR mR).2 D' Y' C' L' W' := by
  obtain ⟨g0, d0⟩ := cus_start h
  obtain ⟨F, tR, mR, hr, res⟩ := cread_st 400 0 _ _ 0 0 g0 d0 (by have := h.L1.2.2; omega)
  have k := (RK.st t).tr (RK.cread F 0 0 _ hr)
  obtain ⟨u, eu⟩ : ∃ u, u = sk_c2 s L := ⟨_, rfl⟩
  obtain ⟨x, ex⟩ : ∃ x, x = scread (tby s) L 400 (scread0 s) := ⟨_, rfl⟩
  rw [← ex] at res
  have u0 : u = mset x 1 1 0 := by rw [eu, ex]; rfl
  have uc := c2_c s L
  rw [← eu] at uc
  have ux : ∀ q, q ≠ 1 → u q = x q := fun q hq => by rw [u0, mset_cell _ hq]
  have u1 : ∀ j, j ≠ 1 → u 1 j = x 1 j := fun j hj => by rw [u0, mset_ne _ (by omega)]
  have u11 : u 1 1 = 0 := by rw [u0, mset_eq]
  have kq : ∀ q, q ≠ 57 → q ≠ 67 → (q < 60 ∨ 64 < q) → mR q = t q := fun q h1 h2 h3 => k.1 q ⟨h1, h2, h3⟩
  have k57 : ∀ j, (j < 13 ∨ 20 < j) → mR 57 j = t 57 j := k.2.1
  refine ⟨F, tR, mR, hr, ?_⟩
  have hh := id h
  obtain ⟨hc, hr', hp, a1, a2, a3, a4, a5, a6, a7, a8⟩ := hh
  unfold sk_custom rk_custom
  rw [← eu]
  have r57 : ∀ j, j ≠ 12 → rpar0 mR 57 j = mR 57 j := fun j hj => mset_ne _ (by omega)
  have rq : ∀ q, q ≠ 57 → rpar0 mR q = mR q := fun q hq => mset_cell _ hq
  have r12 : rpar0 mR 57 12 = 0 := mset_eq _ _ _ _
  generalize rpar0 mR = r at r57 rq r12 ⊢
  rcases res with ⟨⟨P', g⟩, kR, d⟩ | b
  · have c3 : u 1 3 = 0 := (u1 3 (by decide)).trans g.2.2.2.2.1
    have c16 : r 57 16 ≤ 0 := by rw [r57 16 (by decide), g.2.2.2.2.2.1]; decide
    rw [if_pos c3, if_pos c16]
    obtain ⟨d1, d2, d3, d4⟩ := d
    have hT := d1.le
    obtain ⟨v1, v2, v3⟩ := copyC_at u
    obtain ⟨y1, y2⟩ := rccs_at tR 0 r
    generalize scopyC 5 3 u = V at v1 v2 v3 ⊢
    generalize sfold rcc tR 0 r = X at y1 y2 ⊢
    rw [ux 5 (by decide)] at v2
    refine ⟨?_, fun q hq => ?_, D, Y, tR, 0, W, ?_⟩
    · show V 3 1 = Int32.ofNat tR
      exact v2.trans d2
    · show mset X 57 10 (Int32.ofNat tR) q = t q
      rw [mset_cell _ (by omega), y1 q (by omega), rq q (by omega), kq q (by omega) (by omega) (by omega)]
    · show RP V (mset X 57 10 (Int32.ofNat tR)) D Y tR 0 W
      refine h.text (fun q hq => ?_) (fun q hq => ?_) (fun j hj => ?_) (fun j hj => ?_) (fun j hj => ?_) ⟨v2.trans d2, mset_eq _ _ _ _, hT⟩ (fun j hj => ?_) ⟨?_, ?_⟩ ?_
      · rw [v1 q (by omega) (by omega)]; exact uc q (by omega) (by omega) (by omega)
      · rw [mset_cell _ (by omega), y1 q (by omega), rq q (by omega), kq q (by omega) (by omega) (by omega)]
      · rw [mset_cell _ (by decide), y1 63 (by decide), rq 63 (by decide)]; exact k.2.2.1 63 j (by decide) (by decide) hj
      · rw [mset_cell _ (by decide), y1 64 (by decide), rq 64 (by decide)]; exact k.2.2.2 j hj
      · rw [mset_ne _ (by omega), y1 57 (by decide), r57 j (by omega), k57 j (by omega)]
      · rw [v3 j (by omega), ux 6 (by decide), mset_cell _ (by decide), y2 j, if_pos (by omega), rq 67 (by decide)]; exact d3 j hj
      · rw [v1 1 (by decide) (by decide)]; exact u11
      · rw [mset_ne _ (by decide), y1 57 (by decide)]; exact r12
      · rw [v1 1 (by decide) (by decide), u1 4 (by decide), mset_ne _ (by decide), y1 57 (by decide), r57 17 (by decide)]
        exact g.2.2.2.2.2.2
  · have nz : ¬ mR 57 16 = 0 := fun z => by have := b.1; rw [z] at this; exact absurd this (by decide)
    have c3 : ¬ u 1 3 = 0 := by rw [u1 3 (by decide), b.2.1]; exact nz
    have c16 : ¬ r 57 16 ≤ 0 := by rw [r57 16 (by decide)]; exact Int32.not_le.mpr b.1
    rw [if_neg c3, if_neg c16]
    refine ⟨?_, fun q hq => ?_, D, Y, C, 0, W, ?_⟩
    · show -10 - u 1 3 = -10 - r 57 16
      rw [r57 16 (by decide), u1 3 (by decide), b.2.1]
    · show r q = t q
      rw [rq q (by omega), kq q (by omega) (by omega) (by omega)]
    · show RP u r D Y C 0 W
      refine h.text (fun q hq => uc q (by omega) (by omega) (by omega)) (fun q hq => ?_) (fun j hj => ?_) (fun j hj => ?_) (fun j hj => ?_) ⟨?_, ?_, h.hC⟩ (fun j hj => ?_) ⟨u11, r12⟩ ?_
      · rw [rq q (by omega), kq q (by omega) (by omega) (by omega)]
      · rw [rq 63 (by decide)]; exact k.2.2.1 63 j (by decide) (by decide) hj
      · rw [rq 64 (by decide)]; exact k.2.2.2 j hj
      · rw [r57 j (by omega), k57 j (by omega)]
      · rw [uc 3 (by decide) (by decide) (by decide)]; exact hc.2.2.2.2.1
      · rw [r57 10 (by decide), k57 10 (by decide)]; exact hr'.2.2.2.2.1
      · rw [uc 4 (by decide) (by decide) (by decide), rq 65 (by decide), kq 65 (by decide) (by decide) (by decide)]; exact a2 j hj
      · rw [u1 4 (by decide), r57 17 (by decide)]; exact b.2.2
end SCU
theorem P_custom : PB MX6_custom MX7_custom [] Rel := by
  refine PB_mk (d6 := 7) (d7 := 3) (by decide) (by decide) (fun m D Y C L W hm => ?_)
  have c6 := c6_custom hm.c
  have hk := cus_frame m L
  have hm1 : RP m (sk_custom m L).2 D Y C L W := hm.congr (fun _ _ => rfl) hk
  obtain ⟨F, tR, mR, hr, e, k7, r⟩ := S_custom hm1
  have c7 := c7_custom (hm1.L1.2.1) (hm1.L1.2.2) hr
  rw [← e] at c7
  exact ⟨(sk_custom m L).1, (sk_custom m L).2, (rk_custom tR mR).2, c6, hk, k7, fun _ => ⟨c7, r⟩⟩
theorem eqA_all : EqA Rel := eqA_of P_parish P_custom
