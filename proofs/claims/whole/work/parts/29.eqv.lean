/-! copies, images, the book -/
theorem rcp_at {X Y : Nat} (hXY : X + 100 ≤ Y ∨ Y + 100 ≤ X) : ∀ n k m, k + n ≤ 100 → (∀ q, q ≠ 58 → sfold (rcp X Y) n k m q = m q) ∧ ∀ i, sfold (rcp X Y) n k m 58 i = if Y + k ≤ i ∧ i < Y + k + n then m 58 (X + (i - Y)) else m 58 i := by
  intro n
  induction n with
  | zero =>
    intro k m _
    refine ⟨fun _ _ => rfl, fun i => ?_⟩
    rw [if_neg (by omega)]
    rfl
  | succ n ih =>
    intro k m hk
    obtain ⟨h1, h2⟩ := ih (k + 1) (rcp X Y k m) (by omega)
    refine ⟨fun q hq => (h1 q hq).trans (mset_cell _ hq), fun i => ?_⟩
    show sfold (rcp X Y) n (k + 1) (rcp X Y k m) 58 i = _
    rw [h2 i]
    unfold rcp
    by_cases e1 : Y + (k + 1) ≤ i ∧ i < Y + (k + 1) + n
    · rw [if_pos e1, if_pos (by omega), mset_ne _ (by omega)]
    · rw [if_neg e1]
      by_cases e2 : i = Y + k
      · subst e2
        rw [mset_eq, if_pos (by omega)]
        congr 1
        omega
      · rw [mset_ne _ (by omega), if_neg (by omega)]
theorem rcopy_c {X Y q : Nat} (m : zmem) (hXY : X + 100 ≤ Y ∨ Y + 100 ≤ X) (hq : q ≠ 58) : rcopy m X Y q = m q := (rcp_at hXY 100 0 m (by omega)).1 q hq
theorem rcopy_in {X Y j : Nat} (m : zmem) (hXY : X + 100 ≤ Y ∨ Y + 100 ≤ X) (hj : j < 100) : rcopy m X Y 58 (Y + j) = m 58 (X + j) := by
  have := (rcp_at hXY 100 0 m (by omega)).2 (Y + j)
  rw [if_pos (by omega), Nat.add_sub_cancel_left] at this
  exact this
theorem rcopy_out {X Y i : Nat} (m : zmem) (hXY : X + 100 ≤ Y ∨ Y + 100 ≤ X) (hi : i < Y ∨ Y + 100 ≤ i) : rcopy m X Y 58 i = m 58 i := by
  have := (rcp_at hXY 100 0 m (by omega)).2 i
  rw [if_neg (by omega)] at this
  exact this
/-- the picture of a row, elsewhere -/
theorem PR.move {s t s' t' : zmem} {p p' X X' D Y : Nat} (h : PR s p t X D Y) (hD : D ≤ 7) (hY : Y ≤ 8) (h1 : ∀ c, 1 ≤ c → c < 10 → ∀ k, k < (if c = 1 then 8 else 7) → s' (p' + c) k = s (p + c) k) (h2 : s' p' 13 = s p 13 ∧ s' p' 14 = s p 14 ∧ s' p' 15 = s p 15) (h3 : ∀ j, j < 100 → t' 58 (X' + j) = t 58 (X + j)) (h4 : t' 63 = t 63) : PR s' p' t' X' D Y := by
  obtain ⟨g1, g2, g3, g4, g5, g6, g7⟩ := h
  refine ⟨fun c hc k hk => ?_, fun k hk => ?_, fun k hk => ?_, ?_, ?_, ?_, fun j k hj hk => ?_⟩
  · have hk8 := colN8 hD hY hk
    have hr := (colO_rng hc hk8).1
    have hc1 : 1 ≤ c ∧ c < 10 := by rcases hc with rfl | rfl | rfl | rfl | rfl | rfl | rfl | rfl <;> decide
    rw [h1 c hc1.1 hc1.2 k (by unfold colN at hk; by_cases e : c = 1 <;> simp [e] at hk ⊢ <;> omega), Nat.add_assoc, h3 _ (by omega), ← Nat.add_assoc]
    exact g1 c hc k hk
  · rw [h1 4 (by decide) (by decide) k (by simp; omega), h4]; exact g2 k hk
  · rw [h2.1, Nat.add_assoc, h3 _ (by omega), ← Nat.add_assoc]; exact g3 k hk
  · rw [h2.2.1, h3 _ (by omega)]; exact g4
  · rw [h2.2.2, h3 _ (by omega)]; exact g5
  · rw [h3 _ (by omega)]; exact g6
  · rw [Nat.add_assoc, h3 _ (by omega), Nat.add_assoc X' 40 k, h3 _ (by omega), ← Nat.add_assoc, ← Nat.add_assoc]; exact g7 j k hj hk
theorem aput_out {m : zmem} {q n k : Nat} {v : Int32} (hk : n ≤ k) (h : k < 2147483648) : aput m q n (Int32.ofNat k) v = m := by
  unfold aput
  rw [if_neg (n_lt0 h), if_pos ((n_le (by omega) h).mpr hk)]
theorem scopy_at {q p n : Nat} (hn : n = 7 ∨ n = 8) (hqp : q ≠ p) : ∀ r k m, k + r ≤ 8 → (∀ a, a ≠ p → scopy q n p n r k m a = m a) ∧ ∀ i, scopy q n p n r k m p i = if k ≤ i ∧ i < k + r ∧ i < n then m q i else m p i := by
  intro r
  induction r with
  | zero =>
    intro k m _
    refine ⟨fun _ _ => rfl, fun i => ?_⟩
    rw [if_neg (by omega)]
    rfl
  | succ r ih =>
    intro k m hk
    obtain ⟨h1, h2⟩ := ih (k + 1) (aput m p n (Int32.ofNat k) (aat n (m q) (Int32.ofNat k))) (by omega)
    refine ⟨fun a ha => (h1 a ha).trans (aput_ne ha), fun i => ?_⟩
    show scopy q n p n r (k + 1) (aput m p n (Int32.ofNat k) (aat n (m q) (Int32.ofNat k))) p i = _
    rw [h2 i, aput_ne hqp]
    by_cases e1 : k + 1 ≤ i ∧ i < k + 1 + r ∧ i < n
    · rw [if_pos e1, if_pos (by omega)]
    · rw [if_neg e1]
      by_cases e2 : k < n
      · rw [aput_k e2 (by omega), aat_k e2 (by omega)]
        by_cases e3 : i = k
        · subst e3; rw [mset_eq, if_pos (by omega)]
        · rw [mset_ne _ (by omega), if_neg (by omega)]
      · rw [aput_out (by omega) (by omega), if_neg (by omega)]
/-- a parish copied -/
theorem copyP_at {o p : Nat} (h : o + 10 ≤ p ∨ p + 10 ≤ o) (m : zmem) : (∀ a, (a < p ∨ p + 10 ≤ a) → scopyP o p m a = m a) ∧ (∀ c, 1 ≤ c → c < 10 → ∀ k, k < (if c = 1 then 8 else 7) → scopyP o p m (p + c) k = m (o + c) k) ∧ (∀ j, (j < 4 ∨ 13 ≤ j ∧ j ≤ 15) → scopyP o p m p j = m o j) := by
  have cp : ∀ (k : Nat) (m : zmem), (∀ a, a ≠ p → scp o p k m a = m a) ∧ scp o p k m p k = m o k ∧ ∀ j, j ≠ k → scp o p k m p j = m p j := fun k m => ⟨fun a ha => mset_cell _ ha, mset_eq _ _ _ _, fun j hj => mset_ne _ (fun e => hj e.2)⟩
  have cr : ∀ (c n : Nat) (m : zmem), 1 ≤ c → c < 10 → (n = 7 ∨ n = 8) → (∀ a, a ≠ p + c → scr o p c n m a = m a) ∧ ∀ i, i < n → scr o p c n m (p + c) i = m (o + c) i := fun c n m h1 h2 hn => by
    have g := scopy_at (q := o + c) (p := p + c) hn (by omega) 8 0 m (by omega)
    exact ⟨g.1, fun i hi => by have := g.2 i; rw [if_pos (by omega)] at this; exact this⟩
  obtain ⟨m1, e1⟩ : ∃ x, x = scp o p 0 m := ⟨_, rfl⟩
  obtain ⟨m2, e2⟩ : ∃ x, x = scp o p 1 m1 := ⟨_, rfl⟩
  obtain ⟨m3, e3⟩ : ∃ x, x = scp o p 2 m2 := ⟨_, rfl⟩
  obtain ⟨m4, e4⟩ : ∃ x, x = scp o p 3 m3 := ⟨_, rfl⟩
  obtain ⟨n1, f1⟩ : ∃ x, x = scr o p 1 8 m4 := ⟨_, rfl⟩
  obtain ⟨n2, f2⟩ : ∃ x, x = scr o p 2 7 n1 := ⟨_, rfl⟩
  obtain ⟨n3, f3⟩ : ∃ x, x = scr o p 3 7 n2 := ⟨_, rfl⟩
  obtain ⟨n4, f4⟩ : ∃ x, x = scr o p 4 7 n3 := ⟨_, rfl⟩
  obtain ⟨n5, f5⟩ : ∃ x, x = scr o p 5 7 n4 := ⟨_, rfl⟩
  obtain ⟨n6, f6⟩ : ∃ x, x = scr o p 6 7 n5 := ⟨_, rfl⟩
  obtain ⟨n7, f7⟩ : ∃ x, x = scr o p 7 7 n6 := ⟨_, rfl⟩
  obtain ⟨n8, f8⟩ : ∃ x, x = scr o p 8 7 n7 := ⟨_, rfl⟩
  obtain ⟨n9, f9⟩ : ∃ x, x = scr o p 9 7 n8 := ⟨_, rfl⟩
  obtain ⟨k1, g1⟩ : ∃ x, x = scp o p 13 n9 := ⟨_, rfl⟩
  obtain ⟨k2, g2⟩ : ∃ x, x = scp o p 14 k1 := ⟨_, rfl⟩
  have et : scopyP o p m = scp o p 15 k2 := by subst e1; subst e2; subst e3; subst e4; subst f1; subst f2; subst f3; subst f4; subst f5; subst f6; subst f7; subst f8; subst f9; subst g1; subst g2; rfl
  rw [et]
  have a1 := cp 0 m; rw [← e1] at a1
  have a2 := cp 1 m1; rw [← e2] at a2
  have a3 := cp 2 m2; rw [← e3] at a3
  have a4 := cp 3 m3; rw [← e4] at a4
  have b1 := cr 1 8 m4 (by decide) (by decide) (Or.inr rfl); rw [← f1] at b1
  have b2 := cr 2 7 n1 (by decide) (by decide) (Or.inl rfl); rw [← f2] at b2
  have b3 := cr 3 7 n2 (by decide) (by decide) (Or.inl rfl); rw [← f3] at b3
  have b4 := cr 4 7 n3 (by decide) (by decide) (Or.inl rfl); rw [← f4] at b4
  have b5 := cr 5 7 n4 (by decide) (by decide) (Or.inl rfl); rw [← f5] at b5
  have b6 := cr 6 7 n5 (by decide) (by decide) (Or.inl rfl); rw [← f6] at b6
  have b7 := cr 7 7 n6 (by decide) (by decide) (Or.inl rfl); rw [← f7] at b7
  have b8 := cr 8 7 n7 (by decide) (by decide) (Or.inl rfl); rw [← f8] at b8
  have b9 := cr 9 7 n8 (by decide) (by decide) (Or.inl rfl); rw [← f9] at b9
  have c1 := cp 13 n9; rw [← g1] at c1
  have c2 := cp 14 k1; rw [← g2] at c2
  have c3 := cp 15 k2
  have src : ∀ a, (a < p ∨ p + 10 ≤ a) → m4 a = m a ∧ n1 a = m a ∧ n2 a = m a ∧ n3 a = m a ∧ n4 a = m a ∧ n5 a = m a ∧ n6 a = m a ∧ n7 a = m a ∧ n8 a = m a ∧ n9 a = m a ∧ k1 a = m a ∧ k2 a = m a ∧ m1 a = m a ∧ m2 a = m a ∧ m3 a = m a := fun a ha => by
    have z1 : m1 a = m a := a1.1 a (by omega)
    have z2 : m2 a = m a := (a2.1 a (by omega)).trans z1
    have z3 : m3 a = m a := (a3.1 a (by omega)).trans z2
    have z4 : m4 a = m a := (a4.1 a (by omega)).trans z3
    have y1 : n1 a = m a := (b1.1 a (by omega)).trans z4
    have y2 : n2 a = m a := (b2.1 a (by omega)).trans y1
    have y3 : n3 a = m a := (b3.1 a (by omega)).trans y2
    have y4 : n4 a = m a := (b4.1 a (by omega)).trans y3
    have y5 : n5 a = m a := (b5.1 a (by omega)).trans y4
    have y6 : n6 a = m a := (b6.1 a (by omega)).trans y5
    have y7 : n7 a = m a := (b7.1 a (by omega)).trans y6
    have y8 : n8 a = m a := (b8.1 a (by omega)).trans y7
    have y9 : n9 a = m a := (b9.1 a (by omega)).trans y8
    have x1 : k1 a = m a := (c1.1 a (by omega)).trans y9
    have x2 : k2 a = m a := (c2.1 a (by omega)).trans x1
    exact ⟨z4, y1, y2, y3, y4, y5, y6, y7, y8, y9, x1, x2, z1, z2, z3⟩
  refine ⟨fun a ha => (c3.1 a (by omega)).trans (src a ha).2.2.2.2.2.2.2.2.2.2.2.1, fun c h1 h2 k hk => ?_, fun j hj => ?_⟩
  · rw [c3.1 _ (by omega), c2.1 _ (by omega), c1.1 _ (by omega)]
    have q := src (o + c) (by omega)
    match c, h1, h2 with
    | 1, _, _ => rw [b9.1 _ (by omega), b8.1 _ (by omega), b7.1 _ (by omega), b6.1 _ (by omega), b5.1 _ (by omega), b4.1 _ (by omega), b3.1 _ (by omega), b2.1 _ (by omega), b1.2 k hk, q.1]
    | 2, _, _ => rw [b9.1 _ (by omega), b8.1 _ (by omega), b7.1 _ (by omega), b6.1 _ (by omega), b5.1 _ (by omega), b4.1 _ (by omega), b3.1 _ (by omega), b2.2 k hk, q.2.1]
    | 3, _, _ => rw [b9.1 _ (by omega), b8.1 _ (by omega), b7.1 _ (by omega), b6.1 _ (by omega), b5.1 _ (by omega), b4.1 _ (by omega), b3.2 k hk, q.2.2.1]
    | 4, _, _ => rw [b9.1 _ (by omega), b8.1 _ (by omega), b7.1 _ (by omega), b6.1 _ (by omega), b5.1 _ (by omega), b4.2 k hk, q.2.2.2.1]
    | 5, _, _ => rw [b9.1 _ (by omega), b8.1 _ (by omega), b7.1 _ (by omega), b6.1 _ (by omega), b5.2 k hk, q.2.2.2.2.1]
    | 6, _, _ => rw [b9.1 _ (by omega), b8.1 _ (by omega), b7.1 _ (by omega), b6.2 k hk, q.2.2.2.2.2.1]
    | 7, _, _ => rw [b9.1 _ (by omega), b8.1 _ (by omega), b7.2 k hk, q.2.2.2.2.2.2.1]
    | 8, _, _ => rw [b9.1 _ (by omega), b8.2 k hk, q.2.2.2.2.2.2.2.1]
    | 9, _, _ => rw [b9.2 k hk, q.2.2.2.2.2.2.2.2.1]
    | c + 10, _, h2 => omega
  · have q := src o (by omega)
    have mid : n9 p = m4 p := by rw [b9.1 _ (by omega), b8.1 _ (by omega), b7.1 _ (by omega), b6.1 _ (by omega), b5.1 _ (by omega), b4.1 _ (by omega), b3.1 _ (by omega), b2.1 _ (by omega), b1.1 _ (by omega)]
    by_cases e15 : j = 15
    · subst e15; rw [c3.2.1, q.2.2.2.2.2.2.2.2.2.2.2.1]
    · rw [c3.2.2 j e15]
      by_cases e14 : j = 14
      · subst e14; rw [c2.2.1, q.2.2.2.2.2.2.2.2.2.2.1]
      · rw [c2.2.2 j e14]
        by_cases e13 : j = 13
        · subst e13; rw [c1.2.1, q.2.2.2.2.2.2.2.2.2.1]
        · rw [c1.2.2 j e13, mid]
          by_cases z3 : j = 3
          · subst z3; rw [a4.2.1, q.2.2.2.2.2.2.2.2.2.2.2.2.2.2]
          · rw [a4.2.2 j z3]
            by_cases z2 : j = 2
            · subst z2; rw [a3.2.1, q.2.2.2.2.2.2.2.2.2.2.2.2.2.1]
            · rw [a3.2.2 j z2]
              by_cases z1 : j = 1
              · subst z1; rw [a2.2.1, q.2.2.2.2.2.2.2.2.2.2.2.2.1]
              · have z0 : j = 0 := by omega
                subst z0
                rw [a2.2.2 0 (by decide), a1.2.1]
/-- the usual pair where more than the parish now changes -/
theorem PB_any {M6 M7 : zM} {av : List Value} {d6 d7 : Nat} (f : zmem → Nat → Nat → Nat → Nat → Nat → Int32 × zmem) (g : zmem → Nat → Nat → Nat → Nat → Nat → Int32 × zmem) (h6 : d6 ≤ 900) (h7 : d7 ≤ 900) (E6 : ∀ m D Y C L W, CI m D Y C L W → RP m m D Y C L W → Ei M6 d6 (.ref 0 :: av) m (f m D Y C L W).1 (f m D Y C L W).2) (E7 : ∀ s t D Y C L W, RI t D Y C L W → RP s t D Y C L W → Ei M7 d7 (.ref 57 :: av) t (g t D Y C L W).1 (g t D Y C L W).2) (S : ∀ s t D Y C L W, RP s t D Y C L W → (f s D Y C L W).1 = (g t D Y C L W).1 ∧ (∀ q, 57 ≤ q → (f s D Y C L W).2 q = s q) ∧ (∀ q, q < 57 → (g t D Y C L W).2 q = t q) ∧ ∃ D' Y' C' L' W', RP (f s D Y C L W).2 (g t D Y C L W).2 D' Y' C' L' W') : PB M6 M7 av Rel := by
  refine PB_mk h6 h7 (fun m D Y C L W hm => ?_)
  have s1 := S m m D Y C L W hm
  have hm1 : RP m (f m D Y C L W).2 D Y C L W := hm.congr (fun _ _ => rfl) s1.2.1
  have s2 := S m (f m D Y C L W).2 D Y C L W hm1
  refine ⟨(f m D Y C L W).1, (f m D Y C L W).2, (g (f m D Y C L W).2 D Y C L W).2, E6 m D Y C L W hm.c hm, s1.2.1, s2.2.2.1, fun _ => ⟨?_, s2.2.2.2⟩⟩
  have e7 := E7 m (f m D Y C L W).2 D Y C L W hm1.r hm1
  rw [← s2.1] at e7
  exact e7
section KE
variable {s t s' t' : zmem} {D Y C L W : Nat}
/-- the images anew -/
theorem RP.img (h : RP s t D Y C L W) (hs : ∀ q, q ≠ 0 → (q < 27 ∨ 47 ≤ q) → s' q = s q) (ht : ∀ q, q ≠ 58 → q ≠ 59 → t' q = t q) (h58 : ∀ j, j < 100 → t' 58 j = t 58 j) (hf : s' 0 7 = t' 59 0 ∧ s' 0 8 = t' 59 1) (i1 : ¬ s' 0 7 = 0 → IM s' 27 t' 200 D Y) (i2 : ¬ s' 0 8 = 0 → IM s' 37 t' 300 D Y) : RP s' t' D Y C L W := by
  obtain ⟨c, r, p, a1, a2, a3, a4, a5, a6, a7, a8⟩ := h
  refine ⟨?_, ?_, p.congr (fun c hc => hs _ (by omega) (by omega)) (fun j hj => by rw [Nat.zero_add]; exact h58 j hj) (ht 63 (by decide) (by decide)) c.2.1 c.2.2.2.1, ?_, ?_, ?_, ?_, ?_, hf, i1, i2⟩
  · unfold CI at c ⊢
    rw [hs 7 (by decide) (by decide), hs 3 (by decide) (by decide), hs 1 (by decide) (by decide), hs 47 (by decide) (by decide)]
    exact c
  · unfold RI at r ⊢
    rw [ht 64 (by decide) (by decide), ht 57 (by decide) (by decide)]
    exact r
  · rw [hs 7 (by decide) (by decide), ht 57 (by decide) (by decide)]; exact a1
  · intro k hk; rw [hs 4 (by decide) (by decide), ht 65 (by decide) (by decide)]; exact a2 k hk
  · intro k hk; rw [hs 2 (by decide) (by decide), ht 66 (by decide) (by decide)]; exact a3 k hk
  · intro k hk; rw [hs 48 (by decide) (by decide), hs 49 (by decide) (by decide), ht 73 (by decide) (by decide), ht 74 (by decide) (by decide)]; exact a4 k hk
  · rw [hs 1 (by decide) (by decide), ht 57 (by decide) (by decide)]; exact a5
theorem copyIM {p X : Nat} (h : PR s 7 t 0 D Y) (hD : D ≤ 7) (hY : Y ≤ 8) (hp : p = 27 ∨ p = 37) (hX : 200 ≤ X) : IM (scopyP 7 p s) p (rcopy t 0 X) X D Y := by
  have g := copyP_at (o := 7) (p := p) (by omega) s
  refine ⟨h.move hD hY g.2.1 ⟨g.2.2 13 (by decide), g.2.2 14 (by decide), g.2.2 15 (by decide)⟩ (fun j hj => ?_) (rcopy_c t (by omega) (by decide)), fun j hj => ?_⟩
  · rw [rcopy_in t (by omega) hj]
  · rw [g.2.2 j (Or.inl hj), g.1 7 (by omega)]
theorem keep0 (h : RP s t D Y C L W) {S U : zmem} (hS : ∀ a, (a < 27 ∨ 37 ≤ a) → S a = s a) (hU : ∀ q, q ≠ 58 → U q = t q) (hX : ∀ i, (i < 200 ∨ 300 ≤ i) → U 58 i = t 58 i) (im : IM S 27 U 200 D Y) : RP (mset S 0 7 1) (mset U 59 0 1) D Y C L W := by
  have hh := id h
  obtain ⟨c, r, p, a1, a2, a3, a4, a5, a6, a7, a8⟩ := hh
  exact h.img (fun q h0 hq => by rw [mset_cell _ h0, hS q (by omega)]) (fun q h1 h2 => by rw [mset_cell _ h2, hU q h1]) (fun j hj => by rw [mset_ne _ (by omega), hX _ (by omega)]) ⟨by rw [mset_eq, mset_eq], by rw [mset_ne _ (by decide), mset_ne _ (by decide), hS 0 (by omega), hU 59 (by decide)]; exact a6.2⟩ (fun _ => ⟨im.1.congr (fun c hc => mset_cell _ (by omega)) (fun j _ => by rw [mset_cell _ (by decide)]) (mset_cell _ (by decide)) h.hD h.hY, fun j hj => by rw [mset_cell _ (by decide), mset_cell _ (by decide)]; exact im.2 j hj⟩) (fun hk => by
    have hk2 : ¬ s 0 8 = 0 := by
      intro q
      apply hk
      rw [mset_ne _ (by decide), hS 0 (by omega)]
      exact q
    have im2 := a8 hk2
    refine ⟨im2.1.congr (fun c hc => by rw [mset_cell _ (by omega), hS _ (by omega)]) (fun j hj => by rw [mset_cell _ (by decide), hX _ (by omega)]) (by rw [mset_cell _ (by decide), hU 63 (by decide)]) h.hD h.hY, fun j hj => ?_⟩
    rw [mset_cell _ (by decide), mset_cell _ (by decide), hS 37 (by omega), hS 7 (by omega)]
    exact im2.2 j hj)
theorem keep1 (h : RP s t D Y C L W) {S U : zmem} (hS : ∀ a, (a < 37 ∨ 47 ≤ a) → S a = s a) (hU : ∀ q, q ≠ 58 → U q = t q) (hX : ∀ i, (i < 300 ∨ 400 ≤ i) → U 58 i = t 58 i) (im : IM S 37 U 300 D Y) : RP (mset S 0 8 1) (mset U 59 1 1) D Y C L W := by
  have hh := id h
  obtain ⟨c, r, p, a1, a2, a3, a4, a5, a6, a7, a8⟩ := hh
  exact h.img (fun q h0 hq => by rw [mset_cell _ h0, hS q (by omega)]) (fun q h1 h2 => by rw [mset_cell _ h2, hU q h1]) (fun j hj => by rw [mset_ne _ (by omega), hX _ (by omega)]) ⟨by rw [mset_ne _ (by decide), mset_ne _ (by decide), hS 0 (by omega), hU 59 (by decide)]; exact a6.1, by rw [mset_eq, mset_eq]⟩ (fun hk => by
    have hk2 : ¬ s 0 7 = 0 := by
      intro q
      apply hk
      rw [mset_ne _ (by decide), hS 0 (by omega)]
      exact q
    have im2 := a7 hk2
    refine ⟨im2.1.congr (fun c hc => by rw [mset_cell _ (by omega), hS _ (by omega)]) (fun j hj => by rw [mset_cell _ (by decide), hX _ (by omega)]) (by rw [mset_cell _ (by decide), hU 63 (by decide)]) h.hD h.hY, fun j hj => ?_⟩
    rw [mset_cell _ (by decide), mset_cell _ (by decide), hS 27 (by omega), hS 7 (by omega)]
    exact im2.2 j hj) (fun _ => ⟨im.1.congr (fun c hc => mset_cell _ (by omega)) (fun j _ => by rw [mset_cell _ (by decide)]) (mset_cell _ (by decide)) h.hD h.hY, fun j hj => by rw [mset_cell _ (by decide), mset_cell _ (by decide)]; exact im.2 j hj⟩)
theorem S_keep (h : RP s t D Y C L W) (i : Int32) : (sk_keep s i).1 = (rk_keep t i).1 ∧ (∀ q, 57 ≤ q → (sk_keep s i).2 q = s q) ∧ (∀ q, q < 57 → (rk_keep t i).2 q = t q) ∧ ∃ D' Y' C' L' W', RP (sk_keep s i).2 (rk_keep t i).2 D' Y' C' L' W' := by
  have st : ∀ r : Int32, (((r, s) : Int32 × zmem).1 = ((r, t) : Int32 × zmem).1 ∧ (∀ q, 57 ≤ q → ((r, s) : Int32 × zmem).2 q = s q) ∧ (∀ q, q < 57 → ((r, t) : Int32 × zmem).2 q = t q) ∧ ∃ D' Y' C' L' W', RP ((r, s) : Int32 × zmem).2 ((r, t) : Int32 × zmem).2 D' Y' C' L' W') := fun r => ⟨rfl, fun _ _ => rfl, fun _ _ => rfl, D, Y, C, L, W, h⟩
  have fin : ∀ (a b : zmem), (∀ q, 57 ≤ q → a q = s q) → (∀ q, q < 57 → b q = t q) → RP a b D Y C L W → (((1, a) : Int32 × zmem).1 = ((1, b) : Int32 × zmem).1 ∧ (∀ q, 57 ≤ q → ((1, a) : Int32 × zmem).2 q = s q) ∧ (∀ q, q < 57 → ((1, b) : Int32 × zmem).2 q = t q) ∧ ∃ D' Y' C' L' W', RP ((1, a) : Int32 × zmem).2 ((1, b) : Int32 × zmem).2 D' Y' C' L' W') := fun a b x y z => ⟨rfl, x, y, D, Y, C, L, W, z⟩
  unfold sk_keep rk_keep
  by_cases h1 : i < 0
  · rw [if_pos h1, if_pos (rini_le.mpr (Or.inl h1))]; exact st _
  · rw [if_neg h1]
    by_cases h2 : i ≤ 1
    · rw [if_pos h2, if_neg (fun q : rini i 0 1 = 0 => by rcases rini_le.mp q with q | q; exact h1 q; exact absurd h2 (Int32.not_le.mpr q))]
      obtain ⟨a, ha, rfl⟩ := nat_of (n := 1) (by decide) (Int32.not_lt.mp h1) h2
      rw [natc (by omega)]
      have key : ∀ p X, (p = 27 ∨ p = 37) → 200 ≤ X → ∃ S U, S = scopyP 7 p s ∧ U = rcopy t 0 X ∧ (∀ a, (a < p ∨ p + 10 ≤ a) → S a = s a) ∧ (∀ q, q ≠ 58 → U q = t q) ∧ (∀ i, (i < X ∨ X + 100 ≤ i) → U 58 i = t 58 i) ∧ IM S p U X D Y := fun p X hp hX => ⟨_, _, rfl, rfl, (copyP_at (o := 7) (p := p) (by omega) s).1, fun q hq => rcopy_c t (by omega) hq, fun i hi => rcopy_out t (by omega) hi, copyIM h.p h.hD h.hY hp hX⟩
      by_cases e : a = 0
      · subst e
        obtain ⟨S, U, eS, eU, k1, k2, k3, k4⟩ := key 27 200 (Or.inl rfl) (by decide)
        rw [if_neg (by decide), ← eS, show rcopy t 0 (200 + 100 * 0) = U from eU.symm]
        exact fin _ _ (fun q hq => by rw [mset_cell _ (by omega), k1 q (by omega)]) (fun q hq => by rw [mset_cell _ (by omega), k2 q (by omega)]) (keep0 h k1 k2 k3 k4)
      · have e1 : a = 1 := by omega
        subst e1
        obtain ⟨S, U, eS, eU, k1, k2, k3, k4⟩ := key 37 300 (Or.inr rfl) (by decide)
        rw [if_pos (by decide), ← eS, show rcopy t 0 (200 + 100 * 1) = U from eU.symm]
        exact fin _ _ (fun q hq => by rw [mset_cell _ (by omega), k1 q (by omega)]) (fun q hq => by rw [mset_cell _ (by omega), k2 q (by omega)]) (keep1 h k1 k2 k3 k4)
    · rw [if_neg h2, if_pos (rini_le.mpr (Or.inr (Int32.not_le.mp h2)))]; exact st _
theorem back_st {p X : Nat} (h : IM s p t X D Y) (hD : D ≤ 7) (hY : Y ≤ 8) (hp : p = 27 ∨ p = 37) (hX : 200 ≤ X) : FC s (scopyP p 7 s) ∧ FT t (rcopy t X 0) ∧ PR (scopyP p 7 s) 7 (rcopy t X 0) 0 D Y := by
  have g := copyP_at (o := p) (p := 7) (by omega) s
  refine ⟨⟨fun q hq => g.1 q ?_, fun j hj => (g.2.2 j (Or.inl hj)).trans (h.2 j hj)⟩, ⟨fun q hq => rcopy_c t (by omega) (fun e => by subst e; cases hq), fun j hj => rcopy_out t (by omega) (by omega), fun j _ => by rw [rcopy_c t (by omega) (by decide)]⟩, h.1.move hD hY g.2.1 ⟨g.2.2 13 (by decide), g.2.2 14 (by decide), g.2.2 15 (by decide)⟩ (fun j hj => rcopy_in t (by omega) hj) (rcopy_c t (by omega) (by decide))⟩
  unfold gC at hq
  simp at hq
  omega
theorem S_goBack (h : RP s t D Y C L W) (i : Int32) : SIM s t D Y (sk_goBack s i) (rk_goBack t i) := by
  unfold sk_goBack rk_goBack
  by_cases h1 : i < 0
  · rw [if_pos h1, if_pos (rini_le.mpr (Or.inl h1))]; exact SIM.st h rfl
  · rw [if_neg h1]
    by_cases h2 : i ≤ 1
    · rw [if_pos h2, if_neg (fun q : rini i 0 1 = 0 => by rcases rini_le.mp q with q | q; exact h1 q; exact absurd h2 (Int32.not_le.mpr q))]
      obtain ⟨a, ha, rfl⟩ := nat_of (n := 1) (by decide) (Int32.not_lt.mp h1) h2
      have hh := id h
      obtain ⟨c, r, p, a1, a2, a3, a4, a5, a6, a7, a8⟩ := hh
      rw [natc (by omega)]
      match a, ha with
      | 0, _ =>
        rw [if_neg (by decide), ← a6.1]
        by_cases e : s 0 7 = 0
        · rw [if_neg (fun q => q e), if_pos e]; exact SIM.st h rfl
        · rw [if_pos e, if_neg e]
          have b := back_st (a7 e) h.hD h.hY (Or.inl rfl) (by decide)
          exact ⟨rfl, b.1, b.2.1, b.2.2⟩
      | 1, _ =>
        rw [if_pos (by decide), ← a6.2]
        by_cases e : s 0 8 = 0
        · rw [if_neg (fun q => q e), if_pos e]; exact SIM.st h rfl
        · rw [if_pos e, if_neg e]
          have b := back_st (a8 e) h.hD h.hY (Or.inr rfl) (by decide)
          exact ⟨rfl, b.1, b.2.1, b.2.2⟩
      | n + 2, q => omega
    · rw [if_neg h2, if_pos (rini_le.mpr (Or.inr (Int32.not_le.mp h2)))]; exact SIM.st h rfl
end KE
/-! the book, the text, the bribe -/
section BK
variable {s t s' t' : zmem} {D Y C L W : Nat}
theorem RP.gen (h : RP s t D Y C L W) {L' W' : Nat} (hs : ∀ q, (q = 0 ∨ q = 3 ∨ q = 4 ∨ (7 ≤ q ∧ q ≤ 16) ∨ (27 ≤ q ∧ q ≤ 46)) → s' q = s q) (ht : ∀ q, (q = 58 ∨ q = 59 ∨ (63 ≤ q ∧ q ≤ 65)) → t' q = t q) (h57 : ∀ j, (j = 2 ∨ j = 3 ∨ j = 10) → t' 57 j = t 57 j) (hL : s' 1 1 = Int32.ofNat L' ∧ t' 57 12 = Int32.ofNat L' ∧ L' ≤ 400) (hW : s' 47 2 = Int32.ofNat W' ∧ t' 57 30 = Int32.ofNat W' ∧ W' ≤ 20) (hf : s' 1 4 = t' 57 17) (htx : ∀ k, k < L' → TB (s' 2 k) (t' 66 k)) (hbk : ∀ k, k < W' → s' 48 k = t' 73 k ∧ s' 49 k = t' 74 k ∧ (∃ j, j < D ∧ t' 73 k = Int32.ofNat j) ∧ ∃ j, j < Y ∧ t' 74 k = Int32.ofNat j) : RP s' t' D Y C L' W' := by
  obtain ⟨c, r, p, a1, a2, a3, a4, a5, a6, a7, a8⟩ := h
  have im : ∀ q X, 27 ≤ q → q ≤ 37 → IM s q t X D Y → IM s' q t' X D Y := fun q X h1 h2 i => ⟨i.1.congr (fun c hc => hs _ (by omega)) (fun j _ => by rw [ht 58 (by decide)]) (ht 63 (by decide)) c.2.1 c.2.2.2.1, fun j hj => by rw [hs q (by omega), hs 7 (by decide)]; exact i.2 j hj⟩
  refine ⟨?_, ?_, p.congr (fun c hc => hs _ (by omega)) (fun j _ => by rw [ht 58 (by decide)]) (ht 63 (by decide)) c.2.1 c.2.2.2.1, ?_, ?_, htx, hbk, hf, ?_, ?_, ?_⟩
  · unfold CI at c ⊢
    rw [hs 7 (by decide), hs 3 (by decide)]
    exact ⟨c.1, c.2.1, c.2.2.1, c.2.2.2.1, c.2.2.2.2.1, c.2.2.2.2.2.1, hL.1, hL.2.2, hW.1, hW.2.2⟩
  · unfold RI at r ⊢
    rw [ht 64 (by decide), h57 10 (by decide)]
    exact ⟨r.1, r.2.1, r.2.2.1, r.2.2.2.1, r.2.2.2.2.1, r.2.2.2.2.2.1, hL.2.1, hL.2.2, hW.2.1, hW.2.2⟩
  · rw [hs 7 (by decide), h57 2 (by decide), h57 3 (by decide)]; exact a1
  · intro k hk; rw [hs 4 (by decide), ht 65 (by decide)]; exact a2 k hk
  · rw [hs 0 (by decide), ht 59 (by decide)]; exact a6
  · rw [hs 0 (by decide)]; exact fun q => im 27 200 (by decide) (by decide) (a7 q)
  · rw [hs 0 (by decide)]; exact fun q => im 37 300 (by decide) (by decide) (a8 q)
/-- what PB_any wants -/
def SIA (s t : zmem) (a b : Int32 × zmem) : Prop := a.1 = b.1 ∧ (∀ q, 57 ≤ q → a.2 q = s q) ∧ (∀ q, q < 57 → b.2 q = t q) ∧ ∃ D' Y' C' L' W', RP a.2 b.2 D' Y' C' L' W'
theorem SIA.st (h : RP s t D Y C L W) (r : Int32) : SIA s t (r, s) (r, t) := ⟨rfl, fun _ _ => rfl, fun _ _ => rfl, D, Y, C, L, W, h⟩
theorem SIA.mk' (h : RP s' t' D Y C L W) {a b : Int32} (e : a = b) (h1 : ∀ q, 57 ≤ q → s' q = s q) (h2 : ∀ q, q < 57 → t' q = t q) : SIA s t (a, s') (b, t') := ⟨e, h1, h2, D, Y, C, L, W, h⟩
theorem RP.L1 (h : RP s t D Y C L W) : s 1 1 = Int32.ofNat L ∧ t 57 12 = Int32.ofNat L ∧ L ≤ 400 := ⟨h.c.2.2.2.2.2.2.1, h.r.2.2.2.2.2.2.1, h.c.2.2.2.2.2.2.2.1⟩
theorem RP.W1 (h : RP s t D Y C L W) : s 47 2 = Int32.ofNat W ∧ t 57 30 = Int32.ofNat W ∧ W ≤ 20 := ⟨h.c.2.2.2.2.2.2.2.2.1, h.r.2.2.2.2.2.2.2.2.1, h.c.2.2.2.2.2.2.2.2.2⟩
theorem RP.fl (h : RP s t D Y C L W) : s 1 4 = t 57 17 := h.2.2.2.2.2.2.2.1
theorem RP.tx (h : RP s t D Y C L W) : ∀ k, k < L → TB (s 2 k) (t 66 k) := h.2.2.2.2.2.1
theorem RP.bk (h : RP s t D Y C L W) : ∀ k, k < W → s 48 k = t 73 k ∧ s 49 k = t 74 k ∧ (∃ j, j < D ∧ t 73 k = Int32.ofNat j) ∧ ∃ j, j < Y ∧ t 74 k = Int32.ofNat j := h.2.2.2.2.2.2.1
theorem S_tear (h : RP s t D Y C L W) : SIA s t (s 47 2, mset s 47 2 0) (rk_tear t) := by
  unfold rk_tear
  refine SIA.mk' (L := L) (W := 0) (h.gen (fun q hq => mset_cell _ (by omega)) (fun q hq => mset_cell _ (by omega)) (fun j hj => mset_ne _ (by omega)) ?_ ⟨mset_eq _ _ _ _, mset_eq _ _ _ _, by decide⟩ ?_ (fun k hk => ?_) (fun k hk => absurd hk (by omega))) (h.W1.1.trans h.W1.2.1.symm) (fun q hq => mset_cell _ (by omega)) (fun q hq => mset_cell _ (by omega))
  · rw [mset_cell _ (by decide), mset_ne _ (by decide)]; exact h.L1
  · rw [mset_cell _ (by decide), mset_ne _ (by decide)]; exact h.fl
  · rw [mset_cell _ (by decide), mset_cell _ (by decide)]; exact h.tx k hk
theorem S_write (h : RP s t D Y C L W) (d i : Int32) : SIA s t (sk_write s d i) (rk_write t W d i) := by
  unfold sk_write rk_write
  rw [h.sin1, h.sin0]
  by_cases h1 : sin (s 7 1) d = 0
  · rw [if_pos h1, if_pos h1]; exact SIA.st h _
  · rw [if_neg h1, if_neg h1]
    by_cases h2 : sin (s 7 0) i = 0
    · rw [if_pos h2, if_pos h2]; exact SIA.st h _
    · rw [if_neg h2, if_neg h2]
      obtain ⟨k, hk, rfl⟩ := h.dex h1
      obtain ⟨j, hj, rfl⟩ := h.yex h2
      obtain ⟨w1, w2, w3⟩ := h.W1
      rw [w1, w2]
      by_cases e : W = 20
      · subst e
        rw [if_neg (by decide), if_pos (by decide)]; exact SIA.st h _
      · rw [if_pos (show Int32.ofNat W < 20 from (n_lt (b := 20) (by omega) (by decide)).mpr (by omega)), if_neg (fun q : Int32.ofNat W = 20 => e ((n_eq (b := 20) (by omega) (by decide)).mp q))]
        have eb : sbook s (Int32.ofNat k) (Int32.ofNat j) = mset (mset (mset s 48 W (Int32.ofNat k)) 49 W (Int32.ofNat j)) 47 2 (Int32.ofNat (W + 1)) := by
          unfold sbook sbook0
          rw [w1, aput_k (by omega) (by decide), mset_cell _ (show 47 ≠ 48 by decide), w1, aput_k (by omega) (by decide), mset_cell _ (show 47 ≠ 49 by decide), mset_cell _ (show 47 ≠ 48 by decide), w1, nat_succ]
        rw [eb, nat_succ]
        unfold rwr
        refine SIA.mk' (L := L) (W := W + 1) (h.gen (fun q hq => ?_) (fun q hq => ?_) (fun j hj => ?_) ?_ ⟨mset_eq _ _ _ _, mset_eq _ _ _ _, by omega⟩ ?_ (fun x hx => ?_) (fun x hx => ?_)) (mset_eq _ _ _ _) (fun q hq => ?_) (fun q hq => ?_)
        · rw [mset_cell _ (by omega), mset_cell _ (by omega), mset_cell _ (by omega)]
        · rw [mset_cell _ (by omega), mset_cell _ (by omega), mset_cell _ (by omega)]
        · rw [mset_ne _ (by omega), mset_cell _ (by decide), mset_cell _ (by decide)]
        · rw [mset_cell _ (by decide), mset_cell _ (by decide), mset_cell _ (by decide), mset_ne _ (by decide), mset_cell _ (by decide), mset_cell _ (by decide)]; exact h.L1
        · rw [mset_cell _ (by decide), mset_cell _ (by decide), mset_cell _ (by decide), mset_ne _ (by decide), mset_cell _ (by decide), mset_cell _ (by decide)]; exact h.fl
        · rw [mset_cell _ (by decide), mset_cell _ (by decide), mset_cell _ (by decide), mset_cell _ (by decide), mset_cell _ (by decide), mset_cell _ (by decide)]; exact h.tx x hx
        · rw [mset_cell _ (show 48 ≠ 47 by decide), mset_cell _ (show 48 ≠ 49 by decide), mset_cell _ (show 49 ≠ 47 by decide), mset_cell _ (show 73 ≠ 57 by decide), mset_cell _ (show 73 ≠ 74 by decide), mset_cell _ (show 74 ≠ 57 by decide)]
          by_cases z : x = W
          · subst z
            rw [mset_eq, mset_eq, mset_eq, mset_eq]
            exact ⟨rfl, rfl, ⟨k, hk, rfl⟩, ⟨j, hj, rfl⟩⟩
          · rw [mset_ne _ (show ¬ (48 = 48 ∧ x = W) by omega), mset_ne _ (show ¬ (49 = 49 ∧ x = W) by omega), mset_ne _ (show ¬ (73 = 73 ∧ x = W) by omega), mset_ne _ (show ¬ (74 = 74 ∧ x = W) by omega), mset_cell _ (show 49 ≠ 48 by decide), mset_cell _ (show 74 ≠ 73 by decide)]
            exact h.bk x (by omega)
        · rw [mset_cell _ (by omega), mset_cell _ (by omega), mset_cell _ (by omega)]
        · rw [mset_cell _ (by omega), mset_cell _ (by omega), mset_cell _ (by omega)]
/-! a byte of a long -/
theorem byte_eq (b : Int64) : ∀ k, k < 8 → sbyte b k = rbyte b k := by
  intro k hk
  apply bt_ext
  intro i hi
  have m255 : ∀ k, k < 32 → bt 255 k = decide (k < 8) := by decide +kernel
  have m : (255#32).getLsbD i = decide (i < 8) := m255 i hi
  by_cases e : i < 8
  · have e2 : i < 64 := by omega
    match k, hk with
    | 0, _ => simp [bt, sbyte, rbyte]
    | 1, _ =>
      simp [bt, sbyte, rbyte, m, e]
      rw [BitVec.getLsbD_signExtend, BitVec.getLsbD_signExtend, if_pos e2, if_pos e2, BitVec.getLsbD_ushiftRight, BitVec.getLsbD_sshiftRight, if_pos (show 8 + i < 64 by omega), decide_eq_false (show ¬ 64 ≤ i by omega)]
      simp
    | 2, _ =>
      simp [bt, sbyte, rbyte, m, e]
      rw [BitVec.getLsbD_signExtend, BitVec.getLsbD_signExtend, if_pos e2, if_pos e2, BitVec.getLsbD_ushiftRight, BitVec.getLsbD_sshiftRight, if_pos (show 16 + i < 64 by omega), decide_eq_false (show ¬ 64 ≤ i by omega)]
      simp
    | 3, _ =>
      simp [bt, sbyte, rbyte, m, e]
      rw [BitVec.getLsbD_signExtend, BitVec.getLsbD_signExtend, if_pos e2, if_pos e2, BitVec.getLsbD_ushiftRight, BitVec.getLsbD_sshiftRight, if_pos (show 24 + i < 64 by omega), decide_eq_false (show ¬ 64 ≤ i by omega)]
      simp
    | 4, _ =>
      simp [bt, sbyte, rbyte, m, e]
      rw [BitVec.getLsbD_signExtend, BitVec.getLsbD_signExtend, if_pos e2, if_pos e2, BitVec.getLsbD_ushiftRight, BitVec.getLsbD_sshiftRight, if_pos (show 32 + i < 64 by omega), decide_eq_false (show ¬ 64 ≤ i by omega)]
      simp
    | 5, _ =>
      simp [bt, sbyte, rbyte, m, e]
      rw [BitVec.getLsbD_signExtend, BitVec.getLsbD_signExtend, if_pos e2, if_pos e2, BitVec.getLsbD_ushiftRight, BitVec.getLsbD_sshiftRight, if_pos (show 40 + i < 64 by omega), decide_eq_false (show ¬ 64 ≤ i by omega)]
      simp
    | 6, _ =>
      simp [bt, sbyte, rbyte, m, e]
      rw [BitVec.getLsbD_signExtend, BitVec.getLsbD_signExtend, if_pos e2, if_pos e2, BitVec.getLsbD_ushiftRight, BitVec.getLsbD_sshiftRight, if_pos (show 48 + i < 64 by omega), decide_eq_false (show ¬ 64 ≤ i by omega)]
      simp
    | 7, _ =>
      simp [bt, sbyte, rbyte, m, e]
      rw [BitVec.getLsbD_signExtend, BitVec.getLsbD_signExtend, if_pos e2, if_pos e2, BitVec.getLsbD_ushiftRight, BitVec.getLsbD_sshiftRight, if_pos (show 56 + i < 64 by omega), decide_eq_false (show ¬ 64 ≤ i by omega)]
      simp
    | n + 8, q => omega
  · match k, hk with
    | 0, _ => simp [bt, sbyte, rbyte, m, e]
    | 1, _ => simp [bt, sbyte, rbyte, m, e]
    | 2, _ => simp [bt, sbyte, rbyte, m, e]
    | 3, _ => simp [bt, sbyte, rbyte, m, e]
    | 4, _ => simp [bt, sbyte, rbyte, m, e]
    | 5, _ => simp [bt, sbyte, rbyte, m, e]
    | 6, _ => simp [bt, sbyte, rbyte, m, e]
    | 7, _ => simp [bt, sbyte, rbyte, m, e]
    | n + 8, q => omega
theorem byte_tab : ∀ w, w < 256 → vp_nar .byte (Int32.ofNat w).toInt8.toInt32 &&& 255 = Int32.ofNat w := by
  intro w hw
  have : ∀ w, w < 256 → ((Int32.ofNat w).toInt8.toInt32).toInt8.toInt32 &&& 255 = Int32.ofNat w := by decide +kernel
  rw [vp_nar_byte]
  exact this w hw
end BK
/-! feed, bribe -/
section FB
variable {s t s' t' : zmem} {D Y C L W : Nat}
theorem sbyte_ex (b : Int64) (k : Nat) : ∃ w, w < 256 ∧ sbyte b k = Int32.ofNat w := by
  refine small8 (fun j h1 h2 => ?_)
  have m255 : ∀ k, k < 32 → bt 255 k = decide (k < 8) := by decide +kernel
  unfold sbyte
  rw [bt_and, m255 j h2, decide_eq_false (by omega), Bool.and_false]
theorem app_st (h : RP s t D Y C L W) (hL : L < 400) (b : Int64) {k : Nat} (hk : k < 8) : RP (sappend s (sbyte b k)) (rappend (rbyte b k) t) D Y C (L + 1) W ∧ (∀ q, 57 ≤ q → sappend s (sbyte b k) q = s q) ∧ (∀ q, q < 57 → rappend (rbyte b k) t q = t q) := by
  obtain ⟨l1, l2, l3⟩ := h.L1
  obtain ⟨w, hw, ew⟩ := sbyte_ex b k
  have es : sappend s (sbyte b k) = mset (mset s 2 L (vp_nar .byte (sbyte b k).toInt8.toInt32)) 1 1 (Int32.ofNat (L + 1)) := by
    unfold sappend
    rw [l1, if_neg (n_lt0 (by omega)), if_pos (show Int32.ofNat L < 400 from (n_lt (b := 400) (by omega) (by decide)).mpr hL), natc (by omega), nat_succ]
  have et : rappend (rbyte b k) t = mset (mset t 66 L (rbyte b k)) 57 12 (Int32.ofNat (L + 1)) := by
    unfold rappend
    rw [l2, natc (by omega), nat_succ]
  rw [es, et]
  refine ⟨h.gen (fun q hq => ?_) (fun q hq => ?_) (fun j hj => ?_) ⟨mset_eq _ _ _ _, mset_eq _ _ _ _, by omega⟩ ?_ ?_ (fun x hx => ?_) (fun x hx => ?_), fun q hq => ?_, fun q hq => ?_⟩
  · rw [mset_cell _ (by omega), mset_cell _ (by omega)]
  · rw [mset_cell _ (by omega), mset_cell _ (by omega)]
  · rw [mset_ne _ (by omega), mset_cell _ (by decide)]
  · rw [mset_cell _ (by decide), mset_cell _ (by decide), mset_ne _ (by decide), mset_cell _ (by decide)]; exact h.W1
  · rw [mset_ne _ (by decide), mset_cell _ (by decide), mset_ne _ (by decide), mset_cell _ (by decide)]; exact h.fl
  · rw [mset_cell _ (show 2 ≠ 1 by decide), mset_cell _ (show 66 ≠ 57 by decide)]
    by_cases z : x = L
    · subst z
      rw [mset_eq, mset_eq]
      unfold TB
      rw [← byte_eq b k hk, ew, byte_tab w hw]
    · rw [mset_ne _ (show ¬ (2 = 2 ∧ x = L) by omega), mset_ne _ (show ¬ (66 = 66 ∧ x = L) by omega)]
      exact h.tx x (by omega)
  · rw [mset_cell _ (show 48 ≠ 1 by decide), mset_cell _ (show 48 ≠ 2 by decide), mset_cell _ (show 49 ≠ 1 by decide), mset_cell _ (show 49 ≠ 2 by decide), mset_cell _ (show 73 ≠ 57 by decide), mset_cell _ (show 73 ≠ 66 by decide), mset_cell _ (show 74 ≠ 57 by decide), mset_cell _ (show 74 ≠ 66 by decide)]
    exact h.bk x hx
  · rw [mset_cell _ (by omega), mset_cell _ (by omega)]
  · rw [mset_cell _ (by omega), mset_cell _ (by omega)]
theorem feed_st (b : Int64) : ∀ n s t L, n ≤ 8 → L + n ≤ 400 → RP s t D Y C L W → RP (sdown (fun k m => sappend m (sbyte b k)) n s) (sdown (fun k m => rappend (rbyte b k) m) n t) D Y C (L + n) W ∧ (∀ q, 57 ≤ q → sdown (fun k m => sappend m (sbyte b k)) n s q = s q) ∧ (∀ q, q < 57 → sdown (fun k m => rappend (rbyte b k) m) n t q = t q) := by
  intro n
  induction n with
  | zero => intro s t L _ _ h; exact ⟨h, fun _ _ => rfl, fun _ _ => rfl⟩
  | succ n ih =>
    intro s t L hn hL h
    obtain ⟨h1, h2, h3⟩ := app_st h (by omega) b (k := n) (by omega)
    obtain ⟨g1, g2, g3⟩ := ih _ _ (L + 1) (by omega) (by omega) h1
    rw [show L + 1 + n = L + (n + 1) by omega] at g1
    exact ⟨g1, fun q hq => (g2 q hq).trans (h2 q hq), fun q hq => (g3 q hq).trans (h3 q hq)⟩
theorem S_feed (h : RP s t D Y C L W) (n : Int32) (b : Int64) : SIA s t (sk_feed s n b) (rk_feed t n b) := by
  unfold sk_feed rk_feed
  by_cases h1 : n < 1
  · rw [if_pos h1, if_pos (rini_le.mpr (Or.inl h1))]; exact SIA.st h _
  · rw [if_neg h1]
    by_cases h2 : n ≤ 8
    · rw [if_pos h2, if_neg (fun q : rini n 1 8 = 0 => by rcases rini_le.mp q with q | q; exact h1 q; exact absurd h2 (Int32.not_le.mpr q))]
      obtain ⟨l1, l2, l3⟩ := h.L1
      obtain ⟨a, ha, rfl⟩ := nat_of (n := 8) (by decide) (Int32.le_trans (by decide) (Int32.not_lt.mp h1)) h2
      rw [l1, l2, ← Int32.ofNat_add]
      by_cases e : L + a ≤ 400
      · have e' : Int32.ofNat (L + a) ≤ 400 := (n_le (b := 400) (by omega) (by decide)).mpr e
        rw [if_pos e', if_pos e']
        unfold sk_feedm rk_feedm
        rw [natc (by omega)]
        obtain ⟨g1, g2, g3⟩ := feed_st b a s t L ha e h
        exact SIA.mk' g1 (g1.L1.1.trans g1.L1.2.1.symm) g2 g3
      · have e' : ¬ Int32.ofNat (L + a) ≤ 400 := fun q => e ((n_le (b := 400) (by omega) (by decide)).mp q)
        rw [if_neg e', if_neg e']
        exact SIA.st h _
    · rw [if_neg h2, if_pos (rini_le.mpr (Or.inr (Int32.not_le.mp h2)))]; exact SIA.st h _
set_option maxRecDepth 100000 in
theorem c6_bribe0 {m : zmem} {d p : Int32} (h0 : sin (m 7 1) d = 0) : Ei MX6_bribe 7 [.ref 0, .int d, .int p] m (-1000000001) m := by
  refine Ei.of (by decide) (Nat.le_of_ble_eq_true rfl) ?_
  show Z _ 0 [(0, .ref 0), (1, .int d), (2, .int p)] _ _ _ _
  refine z_aload_n 0 dX6_bribe_0 rfl rfl ?_
  refine y_getR fX6_29 dX6_bribe_1 rfl rfl ?_
  refine z_iload_n 1 dX6_bribe_4 rfl rfl ?_
  refine y_Vi [_] _ kX6_150 (c_hasDead isPar7) rfl isPar7.1 dX6_bribe_5 rfl rfl (Nat.le_of_ble_eq_true rfl) (Nat.le_of_ble_eq_true rfl) ⟨Nat.zero_le _, Nat.zero_le _⟩ ?_
  refine z_if_ne 14 dX6_bribe_8 (by decide) (fun c_1 => ?_) (fun c_1 => ?_)
  · exact absurd h0 c_1
  · refine z_ldc (-1000000001) dX6_bribe_11 nX6_137 ?_
    exact y_iret dX6_bribe_13 rfl rfl rfl
theorem sfind_hit {c : Nat → Bool} {N : Nat} : ∀ n k, n ≤ N → (∃ i, k ≤ i ∧ i < k + n ∧ c i = true) → sfind c N k = sfind c n k := by
  induction N with
  | zero =>
    intro n k hn ⟨i, h1, h2, _⟩
    omega
  | succ N ih =>
    intro n k hn ⟨i, h1, h2, h3⟩
    cases n with
    | zero => omega
    | succ n =>
      show (if c k = true then _ else sfind c N (k + 1)) = (if c k = true then _ else sfind c n (k + 1))
      by_cases e : c k = true
      · rw [if_pos e, if_pos e]
      · rw [if_neg e, if_neg e]
        refine ih n (k + 1) (by omega) ⟨i, ?_, by omega, h3⟩
        by_cases z : i = k
        · subst z; exact absurd h3 e
        · omega
theorem sfind_sat {c : Nat → Bool} {M N : Nat} (hM : M < N) (h : ∀ j, M ≤ j → j < N → c j = c M) : sfind c N 0 = sfind c (M + 1) 0 := by
  by_cases e : c M = true
  · exact sfind_hit (M + 1) 0 (by omega) ⟨M, by omega, by omega, e⟩
  · refine sfind_ext (M + 1) 0 (by omega) (fun i h1 h2 => ?_)
    rw [h i (by omega) (by omega)]
    exact Bool.eq_false_iff.mpr e
theorem gv_eq {t : zmem} {k a : Nat} (ha : a ≤ 9999) (e : wt t 0 24 (Int32.ofNat k) = Int32.ofNat a) {j : Nat} (hj : j < 1000) : rgv t (Int32.ofNat k) (Int32.ofNat j) = Int32.ofNat (if a + j ≤ 9999 then a + j else 9999) := by
  unfold rgv
  rw [e, ← Int32.ofNat_add]
  by_cases q : a + j ≤ 9999
  · rw [if_pos q, if_pos (show Int32.ofNat (a + j) ≤ 9999 from (n_le (b := 9999) (by omega) (by decide)).mpr q)]
  · rw [if_neg q, if_neg (fun z : Int32.ofNat (a + j) ≤ 9999 => q ((n_le (b := 9999) (by omega) (by decide)).mp z))]
    rfl
theorem rbrs_eq {mm : zmem} {k : Nat} (hk : k < 8) (j : Nat) : rbrs mm (Int32.ofNat k) j = mset mm 58 (124 + k) (rgv mm (Int32.ofNat k) (Int32.ofNat j)) := by
  unfold rbrs
  rw [wp_k (by omega)]
theorem rbrs2 {mm : zmem} {k : Nat} (hk : k < 8) (i j : Nat) : rbrs (rbrs mm (Int32.ofNat k) i) (Int32.ofNat k) j = rbrs mm (Int32.ofNat k) j := by
  rw [rbrs_eq hk, rbrs_eq hk, rbrs_eq hk, mset_mset]
  congr 1
  unfold rgv
  rw [wt_k (by omega), wt_k (by omega), mset_ne _ (show ¬ (58 = 58 ∧ 0 + 24 + k = 124 + k) by omega)]
theorem rbr_find {t0 : zmem} {k : Nat} (hk : k < 8) (p : Int32) : ∀ n j mm, (∀ i, rbrs mm (Int32.ofNat k) i = rbrs t0 (Int32.ofNat k) i) → (∀ q x, ¬ (q = 58 ∧ x = 124 + k) → mm q x = t0 q x) → (rbr C D (Int32.ofNat k) p n j mm).1 = sfind (fun j => decide (¬ p < rplace (rbrs t0 (Int32.ofNat k) j) 100 C D (Int32.ofNat k))) n j ∧ ∀ q x, ¬ (q = 58 ∧ x = 124 + k) → (rbr C D (Int32.ofNat k) p n j mm).2 q x = t0 q x := by
  intro n
  induction n with
  | zero => intro j mm _ h2; exact ⟨rfl, h2⟩
  | succ n ih =>
    intro j mm h1 h2
    have h3 : ∀ q x, ¬ (q = 58 ∧ x = 124 + k) → rbrs mm (Int32.ofNat k) j q x = t0 q x := fun q x hq => by
      rw [rbrs_eq hk, mset_ne _ hq]; exact h2 q x hq
    show (if p < rplace (rbrs mm (Int32.ofNat k) j) 100 C D (Int32.ofNat k) then rbr C D (Int32.ofNat k) p n (j + 1) (rbrs mm (Int32.ofNat k) j) else (Int32.ofNat j, rbrs mm (Int32.ofNat k) j)).1 = (if decide (¬ p < rplace (rbrs t0 (Int32.ofNat k) j) 100 C D (Int32.ofNat k)) = true then Int32.ofNat j else sfind _ n (j + 1)) ∧ ∀ q x, _ → (if p < rplace (rbrs mm (Int32.ofNat k) j) 100 C D (Int32.ofNat k) then rbr C D (Int32.ofNat k) p n (j + 1) (rbrs mm (Int32.ofNat k) j) else (Int32.ofNat j, rbrs mm (Int32.ofNat k) j)).2 q x = t0 q x
    by_cases e : p < rplace (rbrs mm (Int32.ofNat k) j) 100 C D (Int32.ofNat k)
    · rw [if_pos e, if_neg (by rw [← h1 j]; simp [e])]
      exact ih (j + 1) _ (fun i => by rw [rbrs2 hk]; exact h1 i) h3
    · rw [if_neg e, if_pos (by rw [← h1 j]; simp [e])]
      exact ⟨rfl, h3⟩
theorem CL.set {q j x y : Nat} {v w : Int32} (h : CL s t C) (h1 : 4 ≠ q) (h2 : 65 ≠ x) : CL (mset s q j v) (mset t x y w) C := fun k hk => by
  rw [mset_cell _ h1, mset_cell _ h2]; exact h k hk
theorem S_bribe (h : RP s t D Y C L W) (d p : Int32) : SIM s t D Y (sk_bribe s D C (smin 999 (9999 - sk_had s d)).toNatClampNeg d p) (rk_bribe t C D d p) := by
  unfold sk_bribe rk_bribe
  rw [h.sin1]
  by_cases h1 : sin (s 7 1) d = 0
  · rw [if_pos h1, if_pos h1]; exact SIM.st h rfl
  · rw [if_neg h1, if_neg h1]
    by_cases h2 : p < 0
    · rw [if_pos h2, if_pos (rini_le.mpr (Or.inl h2))]; exact SIM.st h rfl
    · rw [if_neg h2]
      by_cases h3 : p ≤ 6
      · rw [if_pos h3, if_neg (fun q : rini p 0 6 = 0 => by rcases rini_le.mp q with q | q; exact h2 q; exact absurd h3 (Int32.not_le.mpr q))]
        obtain ⟨k, hk, rfl⟩ := h.dex h1
        have hD := h.hD
        have hY := h.hY
        rw [h.wait hk]
        by_cases h4 : shas (swait s 7 D) (Int32.ofNat k) = 0
        · rw [if_pos h4, if_pos h4]; exact SIM.st h rfl
        · rw [if_neg h4, if_neg h4]
          have c5 : colok 5 := Or.inr (Or.inr (Or.inr (Or.inl rfl)))
          obtain ⟨a, ha, ea⟩ := nat_of (n := 9999) (by decide) (h.p.1 5 c5 k hk).2.1 (h.p.1 5 c5 k hk).2.2
          have ea : wt t 0 24 (Int32.ofNat k) = Int32.ofNat a := by rw [wt_k (by omega)]; exact ea
          have eh : sk_had s (Int32.ofNat k) = Int32.ofNat a := by unfold sk_had; rw [h.p.gifts hD hk, ea]
          have e12 : s 12 k = Int32.ofNat a := by
            have := h.p.gifts hD hk
            rw [aat_k (by omega) (by decide), ea] at this
            exact this
          obtain ⟨M, eM⟩ : ∃ M, M = min 999 (9999 - a) := ⟨_, rfl⟩
          have emo : smin 999 (9999 - Int32.ofNat a) = Int32.ofNat M := by
            have e1 : 9999 - Int32.ofNat a = Int32.ofNat (9999 - a) := by
              have : Int32.ofNat (9999 - a) + Int32.ofNat a = 9999 := by
                rw [← Int32.ofNat_add, show 9999 - a + a = 9999 by omega]; rfl
              rw [← this]; grind
            rw [e1]
            unfold smin
            by_cases q : 9999 - a < 999
            · rw [if_pos (show Int32.ofNat (9999 - a) < 999 from (n_lt (b := 999) (by omega) (by decide)).mpr q), eM]
              congr 1; omega
            · rw [if_neg (fun z : Int32.ofNat (9999 - a) < 999 => q ((n_lt (b := 999) (by omega) (by decide)).mp z)), eM, show min 999 (9999 - a) = 999 by omega]
              rfl
          rw [eh, emo, natc (by omega)]
          obtain ⟨t0, et0⟩ : ∃ x, x = rcopy t 0 100 := ⟨_, rfl⟩
          have c0 : ∀ q, q ≠ 58 → t0 q = t q := fun q hq => by rw [et0]; exact rcopy_c t (by omega) hq
          have r0 : ∀ i, (i < 100 ∨ 200 ≤ i) → t0 58 i = t 58 i := fun i hi => by rw [et0]; exact rcopy_out t (by omega) (by omega)
          have p0 : PR s 7 t0 100 D Y := h.p.move hD hY (fun _ _ _ _ _ => rfl) ⟨rfl, rfl, rfl⟩ (fun j hj => by rw [et0]; exact rcopy_in t (by omega) hj) (c0 63 (by decide))
          have w0 : wt t0 0 24 (Int32.ofNat k) = Int32.ofNat a := by rw [← ea, wt_k (by omega), wt_k (by omega), r0 _ (by omega)]
          rw [← et0]
          obtain ⟨f1, f2⟩ := rbr_find (C := C) (D := D) (t0 := t0) (k := k) (by omega) p 1000 0 t0 (fun _ => rfl) (fun _ _ _ => rfl)
          have same : sk_brm s (Int32.ofNat k) = s := by
            unfold sk_brm
            rw [eh, aput_k (by omega) (by decide), ← e12]
            exact mset_sf s 12 k
          rw [same]
          refine ⟨?_, FC.rf s, ⟨fun q hq => ?_, fun i hi => ?_, fun i hi => ?_⟩, h.p.congr (fun _ _ => rfl) (fun j hj => ?_) ?_ hD hY⟩
          · show sk_br s D C M (Int32.ofNat k) p = _
            rw [f1]
            have sat := sfind_sat (c := fun j => decide (¬ p < rplace (rbrs t0 (Int32.ofNat k) j) 100 C D (Int32.ofNat k))) (M := M) (N := 1000) (by omega) (fun j hj1 hj2 => by
              have e : rbrs t0 (Int32.ofNat k) j = rbrs t0 (Int32.ofNat k) M := by
                rw [rbrs_eq (by omega), rbrs_eq (by omega), gv_eq ha w0 hj2, gv_eq ha w0 (by omega)]
                have : (if a + j ≤ 9999 then a + j else 9999) = if a + M ≤ 9999 then a + M else 9999 := by
                  by_cases z : j = M
                  · rw [z]
                  · have : a + M = 9999 := by omega
                    rw [this]
                    split <;> simp <;> omega
                rw [this]
              show decide _ = decide _
              rw [e])
            rw [sat]
            unfold sk_br
            refine sfind_congr (M + 1) 0 (fun j _ hj => ?_)
            unfold sk_brc
            have hj9 : a + j ≤ 9999 := by omega
            have ev : rgv t0 (Int32.ofNat k) (Int32.ofNat j) = Int32.ofNat (a + j) := by rw [gv_eq ha w0 (by omega), if_pos hj9]
            rw [eh, ← Int32.ofNat_add, aput_k (by omega) (by decide), rbrs_eq (by omega), ev]
            have pj : PR (mset s (7 + 5) k (Int32.ofNat (a + j))) 7 (mset t0 58 (124 + k) (Int32.ofNat (a + j))) 100 D Y := p0.set hD hY (c := 5) c5 (by decide) hk ⟨Int32.not_lt.mp (n_lt0 (by omega)), (n_le (b := 9999) (by omega) (by decide)).mpr hj9⟩
            have cl0 : CL s t0 C := fun i hi => by rw [c0 65 (by decide)]; exact h.cl i hi
            have pl := place_eq pj (by rw [mset_cell _ (by decide)]; exact h.s1) hD hY (CL.set cl0 (by decide) (by decide)) h.hC hk
            rw [wait_same (s := s) (s' := mset s (7 + 5) k (Int32.ofNat (a + j))) (D := D) ⟨by rw [mset_cell _ (by decide)], by rw [mset_cell _ (by decide)]⟩ (mset_cell _ (by decide))] at pl
            rw [pl]
          · funext x
            rw [f2 q x (by rintro ⟨rfl, _⟩; cases hq), c0 q (by rintro rfl; cases hq)]
          · rw [f2 58 i (by omega), r0 i (by omega)]
          · rw [f2 57 i (by omega), c0 57 (by decide)]
          · rw [f2 58 _ (by omega), r0 _ (by omega)]
          · funext x
            rw [f2 63 x (by omega), c0 63 (by decide)]
      · rw [if_neg h3, if_pos (rini_le.mpr (Or.inr (Int32.not_le.mp h3)))]; exact SIM.st h rfl
end FB
/-! who is offended; quarrels -/
def W3 (s m : zmem) : Prop := ∀ q, q ≠ 51 → q ≠ 52 → q ≠ 53 → m q = s q
theorem claim_W3 {s m : zmem} (h : W3 s m) (C : Nat) (d : Int32) : sclaim m 7 3 C d = sclaim s 7 3 C d := by
  unfold sclaim sworth
  rw [h (3 + 1) (by decide) (by decide) (by decide), h (7 + 2) (by decide) (by decide) (by decide), h (7 + 3) (by decide) (by decide) (by decide), h (7 + 4) (by decide) (by decide) (by decide), h (7 + 5) (by decide) (by decide) (by decide)]
def bhb (s : zmem) (C d o : Nat) : Bool := decide (¬ lg_cmp (sclaim s 7 3 C (Int32.ofNat d)) (sclaim s 7 3 C (Int32.ofNat o)) ≤ 0)
def alb (s : zmem) (d o : Nat) : Bool := decide (s 11 d = s 11 o)
/-- what one inner step leaves -/
def BI (s m m' : zmem) (C d k n : Nat) : Prop := W3 s m' ∧ m' 53 = m 53 ∧ (∀ e, e ≠ d → m' 51 e = m 51 e ∧ m' 52 e = m 52 e) ∧ ∀ j, j < 32 → bt (m' 51 d) j = (bt (m 51 d) j || (decide (k ≤ j ∧ j < k + n) && bhb s C d j)) ∧ bt (m' 52 d) j = (bt (m 52 d) j || (decide (k ≤ j ∧ j < k + n) && alb s d j))
theorem sbgi_st {s m : zmem} {C d o : Nat} (h : W3 s m) (hd : d < 7) (ho : o < 7) : BI s m (sbgi C d o m) C d o 1 := by
  obtain ⟨b, hb⟩ : ∃ b, b = sbgb C d o m := ⟨_, rfl⟩
  have B : W3 s b ∧ b 53 = m 53 ∧ b 52 = m 52 ∧ (∀ e, e ≠ d → b 51 e = m 51 e) ∧ ∀ j, j < 32 → bt (b 51 d) j = (bt (m 51 d) j || (decide (o ≤ j ∧ j < o + 1) && bhb s C d j)) := by
    rw [hb]
    unfold sbgb bhb
    rw [claim_W3 h, claim_W3 h]
    by_cases e : lg_cmp (sclaim s 7 3 C (Int32.ofNat d)) (sclaim s 7 3 C (Int32.ofNat o)) ≤ 0
    · rw [if_pos e]
      refine ⟨h, rfl, rfl, fun _ _ => rfl, fun j hj => ?_⟩
      by_cases z : o ≤ j ∧ j < o + 1
      · have : j = o := by omega
        subst this
        simp [e]
      · rw [decide_eq_false z]; simp
    · rw [if_neg e, aput_k hd (by decide), aat_k hd (by decide)]
      refine ⟨fun q h1 h2 h3 => (mset_cell _ h1).trans (h q h1 h2 h3), mset_cell _ (by decide), mset_cell _ (by decide), fun e' he => mset_ne _ (by omega), fun j hj => ?_⟩
      rw [mset_eq, bt_or, bt_sbit (by omega) hj]
      by_cases z : o = j
      · subst z; simp [e]
      · have : ¬ (o ≤ j ∧ j < o + 1) := by omega
        rw [decide_eq_false this]; simp [z]
  obtain ⟨b1, b2, b3, b4, b5⟩ := B
  have e11 : b 11 = s 11 := b1 11 (by decide) (by decide) (by decide)
  have m11 : m 11 = s 11 := h 11 (by decide) (by decide) (by decide)
  unfold sbgi
  rw [← hb, aat_k hd (by decide), aat_k ho (by decide), m11]
  by_cases e : s 11 d = s 11 o
  · rw [if_neg (fun q => q e), aput_k hd (by decide), aat_k hd (by decide)]
    refine ⟨fun q h1 h2 h3 => (mset_cell _ h2).trans (b1 q h1 h2 h3), (mset_cell _ (by decide)).trans b2, fun e' he => ⟨by rw [mset_cell _ (by decide)]; exact b4 e' he, by rw [mset_ne _ (by omega), b3]⟩, fun j hj => ⟨by rw [mset_cell _ (by decide)]; exact b5 j hj, ?_⟩⟩
    rw [mset_eq, bt_or, bt_sbit (by omega) hj]
    unfold alb
    by_cases z : o = j
    · subst z; simp [e]
    · have : ¬ (o ≤ j ∧ j < o + 1) := by omega
      rw [decide_eq_false this]; simp [z]
  · rw [if_pos e]
    refine ⟨b1, b2, fun e' he => ⟨b4 e' he, by rw [b3]⟩, fun j hj => ⟨b5 j hj, ?_⟩⟩
    rw [b3]
    unfold alb
    by_cases z : o ≤ j ∧ j < o + 1
    · have : j = o := by omega
      subst this
      simp [e]
    · rw [decide_eq_false z]; simp
theorem sbgI_st {s : zmem} {C d : Nat} (hd : d < 7) : ∀ n k m, k + n ≤ 7 → W3 s m → BI s m (sfold (sbgi C d) n k m) C d k n := by
  intro n
  induction n with
  | zero =>
    intro k m _ h
    refine ⟨h, rfl, fun _ _ => ⟨rfl, rfl⟩, fun j _ => ?_⟩
    have : ¬ (k ≤ j ∧ j < k + 0) := by omega
    rw [decide_eq_false this]
    simp [sfold]
  | succ n ih =>
    intro k m hk h
    obtain ⟨a1, a2, a3, a4⟩ := sbgi_st (C := C) h hd (o := k) (by omega)
    obtain ⟨c1, c2, c3, c4⟩ := ih (k + 1) (sbgi C d k m) (by omega) a1
    refine ⟨c1, c2.trans a2, fun e he => ⟨(c3 e he).1.trans (a3 e he).1, (c3 e he).2.trans (a3 e he).2⟩, fun j hj => ?_⟩
    have split : decide (k ≤ j ∧ j < k + (n + 1)) = (decide (k ≤ j ∧ j < k + 1) || decide (k + 1 ≤ j ∧ j < k + 1 + n)) := by
      by_cases z1 : k ≤ j ∧ j < k + 1 <;> by_cases z2 : k + 1 ≤ j ∧ j < k + 1 + n
      · omega
      · rw [decide_eq_true z1, decide_eq_false z2, decide_eq_true (by omega)]; rfl
      · rw [decide_eq_false z1, decide_eq_true z2, decide_eq_true (by omega)]; rfl
      · rw [decide_eq_false z1, decide_eq_false z2, decide_eq_false (by omega)]; rfl
    constructor
    · show bt (sfold (sbgi C d) n (k + 1) (sbgi C d k m) 51 d) j = _
      rw [(c4 j hj).1, (a4 j hj).1, split, Bool.and_or_distrib_right, Bool.or_assoc]
    · show bt (sfold (sbgi C d) n (k + 1) (sbgi C d k m) 52 d) j = _
      rw [(c4 j hj).2, (a4 j hj).2, split, Bool.and_or_distrib_right, Bool.or_assoc]
/-- the plan as it begins -/
def PL (s u : zmem) (D C : Nat) : Prop := W3 s u ∧ ∀ d, d < 7 → u 53 d = (if d < D then s 14 d else -1) ∧ ∀ j, j < 7 → bt (u 51 d) j = bhb s C d j ∧ bt (u 52 d) j = alb s d j
theorem begin_pl {s : zmem} {D C : Nat} (hp : s 7 1 = Int32.ofNat D) (hD : D ≤ 7) : PL s (spbegin C s) D C := by
  have key : ∀ n k m, k + n = 7 → W3 s m → (∀ d, d < k → m 53 d = (if d < D then s 14 d else -1) ∧ ∀ j, j < 7 → bt (m 51 d) j = bhb s C d j ∧ bt (m 52 d) j = alb s d j) → PL s (sfold (sbgo C) n k m) D C := by
    intro n
    induction n with
    | zero =>
      intro k m hk h1 h2
      have e : k = 7 := by omega
      subst e
      exact ⟨h1, h2⟩
    | succ n ih =>
      intro k m hk h1 h2
      have hk7 : k < 7 := by omega
      have e7 : m 7 1 = Int32.ofNat D := by rw [h1 7 (by decide) (by decide) (by decide)]; exact hp
      have z0 : sbg0 k m = mset (mset (mset m 51 k 0) 52 k 0) 53 k (if k < D then s 14 k else -1) := by
        unfold sbg0
        rw [aput_k hk7 (by decide), aput_k hk7 (by decide), aput_k hk7 (by decide), e7, h1 14 (by decide) (by decide) (by decide), aat_k hk7 (by decide)]
        have : (sin (Int32.ofNat D) (Int32.ofNat k) = 0) ↔ ¬ k < D := by
          unfold sin
          rw [if_neg (n_lt0 (by omega))]
          by_cases q : k < D
          · rw [if_neg (by rw [n_le (by omega) (by omega)]; omega)]; simp [q]
          · rw [if_pos ((n_le (by omega) (by omega)).mpr (by omega))]; simp [q]
        by_cases q : k < D
        · rw [if_neg (fun z => this.mp z q), if_pos q]
        · rw [if_pos (this.mpr q), if_neg q]
      have w0 : W3 s (sbg0 k m) := fun q h51 h52 h53 => by rw [z0, mset_cell _ h53, mset_cell _ h52, mset_cell _ h51]; exact h1 q h51 h52 h53
      obtain ⟨a1, a2, a3, a4⟩ := sbgI_st (C := C) hk7 7 0 (sbg0 k m) (by omega) w0
      refine ih (k + 1) _ (by omega) a1 (fun d hd => ?_)
      by_cases q : d = k
      · subst q
        refine ⟨?_, fun j hj => ?_⟩
        · show sfold (sbgi C d) 7 0 (sbg0 d m) 53 d = _
          rw [a2, z0, mset_eq]
        · have g := a4 j (by omega)
          have t : (0 ≤ j ∧ j < 0 + 7) := by omega
          rw [decide_eq_true t, Bool.true_and, Bool.true_and] at g
          have e1 : sbg0 d m 51 d = 0 := by rw [z0, mset_cell _ (by decide), mset_cell _ (by decide), mset_eq]
          have e2 : sbg0 d m 52 d = 0 := by rw [z0, mset_cell _ (by decide), mset_eq]
          rw [e1, e2, bt_zero, Bool.false_or, Bool.false_or] at g
          exact g
      · have g := h2 d (by omega)
        have e1 : sbg0 k m 51 d = m 51 d := by rw [z0, mset_cell _ (by decide), mset_cell _ (by decide), mset_ne _ (by omega)]
        have e2 : sbg0 k m 52 d = m 52 d := by rw [z0, mset_cell _ (by decide), mset_ne _ (by omega), mset_cell _ (by decide)]
        have e3 : sbg0 k m 53 d = m 53 d := by rw [z0, mset_ne _ (by omega), mset_cell _ (by decide), mset_cell _ (by decide)]
        show sfold (sbgi C k) 7 0 (sbg0 k m) 53 d = _ ∧ ∀ j, j < 7 → bt (sfold (sbgi C k) 7 0 (sbg0 k m) 51 d) j = _ ∧ bt (sfold (sbgi C k) 7 0 (sbg0 k m) 52 d) j = _
        rw [a2, (a3 d q).1, (a3 d q).2, e1, e2, e3]
        exact g
  exact key 7 0 s rfl (fun _ _ _ _ => rfl) (fun d hd => by omega)
/-- a laying in the plan (53) and in a row of the reference -/
def LY (u : zmem) (t : zmem) (X D Y : Nat) : Prop := (∀ k, k < D → u 53 k = wt t X 40 (Int32.ofNat k)) ∧ (∀ k, D ≤ k → k < 7 → u 53 k = -1) ∧ ∀ k, k < D → wt t X 40 (Int32.ofNat k) = -1 ∨ ∃ i, i < Y ∧ wt t X 40 (Int32.ofNat k) = Int32.ofNat i
/-- custom and kin, as plan and reference have them -/
def CK (u t : zmem) (X C D : Nat) : Prop := ∀ a, a < D → ∀ b, b < D → (bt (u 51 a) b = decide (¬ rabc t X (Int32.ofNat a) (Int32.ofNat b) C 0 = 0)) ∧ bt (u 52 a) b = decide (t 63 a = t 63 b)
section QU
variable {s t u : zmem} {X D Y C L W : Nat}
theorem PL.ck (h : PL s u D C) (hp : PR s 7 t X D Y) (hD : D ≤ 7) (hc : CL s t C) (hC : C ≤ 4) : CK u t X C D := fun a ha b hb => by
  have g := (h.2 a (by omega)).2 b (by omega)
  rw [g.1, g.2]
  refine ⟨?_, ?_⟩
  · unfold bhb
    have q := claim_lt hp hD hc hC ha hb
    by_cases e : ¬ rabc t X (Int32.ofNat a) (Int32.ofNat b) C 0 = 0
    · rw [decide_eq_true e, decide_eq_true (q.mpr e)]
    · rw [decide_eq_false e, decide_eq_false (fun z => e (q.mp z))]
  · unfold alb
    rw [show s 11 a = t 63 a from (hp.2.1 a ha).1, show s 11 b = t 63 b from (hp.2.1 b hb).1]
theorem PL.ly (h : PL s u D C) (hp : PR s 7 t X D Y) (hD : D ≤ 7) : LY u t X D Y := by
  refine ⟨fun k hk => ?_, fun k h1 h2 => ?_, fun k hk => hp.yv hD hk⟩
  · have g := (h.2 k (by omega)).1
    rw [if_pos hk] at g
    rw [g, wt_k (by omega)]
    exact (hp.1 7 c7k k hk).1
  · have g := (h.2 k h2).1
    rw [if_neg (by omega)] at g
    exact g
theorem yv_neg (h : LY u t X D Y) (hY : Y ≤ 8) {k : Nat} (hk : k < D) : wt t X 40 (Int32.ofNat k) < 0 ↔ wt t X 40 (Int32.ofNat k) = -1 := by
  rcases h.2.2 k hk with e | ⟨i, hi, e⟩
  · rw [e]; decide
  · rw [e]
    have : ∀ i, i < 8 → (Int32.ofNat i < 0 ↔ Int32.ofNat i = -1) := by decide +kernel
    exact this i (by omega)
/-- offended: o lies, d lies, d is ahead of o, d's yard is behind -/
theorem off_eq (hl : LY u t X D Y) (hc : CK u t X C D) (hD : D ≤ 7) (hY : Y ≤ 8) {o d : Nat} (ho : o < D) (hd : d < D) (lo : ¬ u 53 o = -1) (ld : ¬ u 53 d = -1) : soff u (Int32.ofNat o) (Int32.ofNat d) = roff t X C (Int32.ofNat o) (Int32.ofNat d) := by
  have g := (hc d hd o ho).1
  unfold soff roff
  rw [aat_k (show d < 7 by omega) (by decide), aat_k (show d < 7 by omega) (by decide), aat_k (show o < 7 by omega) (by decide), shas_bt _ (by omega), g, hl.1 d hd, hl.1 o ho]
  rw [hl.1 o ho] at lo
  rw [hl.1 d hd] at ld
  by_cases e : Int32.ofNat d = Int32.ofNat o
  · have : d = o := ofNat_inj e (by omega) (by omega)
    subst this
    have : rabc t X (Int32.ofNat d) (Int32.ofNat d) C 0 = 0 := by
      have : ∀ n k, rabc t X (Int32.ofNat d) (Int32.ofNat d) n k = 0 := by
        intro n
        induction n with
        | zero => intro k; exact if_pos (Int32.le_refl _)
        | succ n ih =>
          intro k
          show (if rvd t X (Int32.ofNat d) (Int32.ofNat d) k = 0 then rabc t X (Int32.ofNat d) (Int32.ofNat d) n (k + 1) else _) = 0
          rw [if_pos (by unfold rvd; exact Int32.sub_self _)]
          exact ih (k + 1)
      exact this C 0
    rw [if_pos e]
    simp [this]
  · rw [if_neg e, if_neg (fun q => ld ((yv_neg hl hY hd).mp q)), if_neg (fun q => lo ((yv_neg hl hY ho).mp q))]
    by_cases e2 : rabc t X (Int32.ofNat d) (Int32.ofNat o) C 0 = 0
    · simp [e2]
    · simp [e2]
theorem roff0 (hl : LY u t X D Y) (hY : Y ≤ 8) {o d : Nat} (ho : o < D) (hd : d < D) (h : u 53 o = -1 ∨ u 53 d = -1) : roff t X C (Int32.ofNat o) (Int32.ofNat d) = 0 := by
  rw [hl.1 o ho, hl.1 d hd] at h
  unfold roff
  by_cases e : Int32.ofNat d = Int32.ofNat o
  · rw [if_pos e]
  · rw [if_neg e]
    by_cases e1 : wt t X 40 (Int32.ofNat d) < 0
    · rw [if_pos e1]
    · rw [if_neg e1]
      rcases h with h | h
      · rw [if_pos ((yv_neg hl hY ho).mpr h)]
      · exact absurd ((yv_neg hl hY hd).mpr h) e1
theorem roff01q (o d : Int32) : roff t X C o d = 0 ∨ roff t X C o d = 1 := by
  unfold roff
  by_cases e : d = o
  · rw [if_pos e]; exact Or.inl rfl
  · rw [if_neg e]
    by_cases e1 : wt t X 40 d < 0
    · rw [if_pos e1]; exact Or.inl rfl
    · rw [if_neg e1]
      by_cases e2 : wt t X 40 o < 0
      · rw [if_pos e2]; exact Or.inl rfl
      · rw [if_neg e2]
        by_cases e3 : rabc t X d o C 0 = 0
        · rw [if_pos e3]; exact Or.inl rfl
        · rw [if_neg e3]
          by_cases e4 : wt t X 40 d ≤ wt t X 40 o
          · rw [if_pos e4]; exact Or.inl rfl
          · rw [if_neg e4]; exact Or.inr rfl
theorem offs_eq (hl : LY u t X D Y) (hc : CK u t X C D) (hD : D ≤ 7) (hY : Y ≤ 8) (hX : X = 0) {d : Nat} (hd : d < D) (ld : ¬ u 53 d = -1) : swoff u (Int32.ofNat d) = roffs t D C (Int32.ofNat d) := by
  subst hX
  apply bt_ext
  intro j hj
  unfold swoff roffs
  rw [sfold_bt (b := 7) (c := fun k => decide (¬ u 53 k = -1) && !decide (soff u (Int32.ofNat k) (Int32.ofNat d) = 0)) (fun k s' j hk hj => ?_) 7 0 0 j (by omega) hj, sfold_bt (b := D) (c := fun k => !decide (roff t 0 C (Int32.ofNat k) (Int32.ofNat d) = 0)) (fun k s' j hk hj => ?_) D 0 0 j (by omega) hj, bt_zero, Bool.false_or, Bool.false_or]
  · by_cases e : j < D
    · rw [decide_eq_true (show 0 ≤ j ∧ j < 0 + 7 by omega), decide_eq_true (show 0 ≤ j ∧ j < 0 + D by omega), Bool.true_and, Bool.true_and]
      by_cases q : u 53 j = -1
      · rw [roff0 hl hY e hd (Or.inl q)]; simp [q]
      · rw [off_eq hl hc hD hY e hd q ld]; simp [q]
    · rw [decide_eq_false (show ¬ (0 ≤ j ∧ j < 0 + D) by omega), Bool.false_and]
      by_cases e7 : j < 7
      · have := hl.2.1 j (by omega) e7
        simp [this]
      · simp [e7]
  · rw [bt_or, bt_c01 (b := !decide (roff t 0 C (Int32.ofNat k) (Int32.ofNat d) = 0)) ?_ (by omega) hj]
    rcases roff01q (t := t) (X := 0) (C := C) (Int32.ofNat k) (Int32.ofNat d) with e | e <;> rw [e] <;> simp
  · rw [aat_k (by omega) (by decide)]
    by_cases q : u 53 k = -1
    · rw [if_pos q]; simp [q]
    · rw [if_neg q]
      by_cases q2 : soff u (Int32.ofNat k) (Int32.ofNat d) = 0
      · rw [if_pos q2]; simp [q2]
      · rw [if_neg q2, bt_or, bt_sbit (by omega) hj]; simp [q, q2]
theorem FC.W3 (h : W3 s u) : FC s u := ⟨fun q hq => h q (by rintro rfl; cases hq) (by rintro rfl; cases hq) (by rintro rfl; cases hq), fun j _ => by rw [h 7 (by decide) (by decide) (by decide)]⟩
theorem PR.W3 (h : PR s 7 t X D Y) (w : W3 s u) (hD : D ≤ 7) (hY : Y ≤ 8) : PR u 7 t X D Y := h.congr (fun c hc => w _ (by omega) (by omega) (by omega)) (fun _ _ => rfl) rfl hD hY
theorem S_offended (h : RP s t D Y C L W) (d : Int32) : SIM s t D Y (sk_offended s D C d) (rk_offended t D C d, t) := by
  unfold sk_offended rk_offended
  rw [h.sin1]
  by_cases h1 : sin (s 7 1) d = 0
  · rw [if_pos h1, if_pos h1]; exact SIM.st h rfl
  · rw [if_neg h1, if_neg h1]
    obtain ⟨k, hk, rfl⟩ := h.dex h1
    have hD := h.hD
    have hY := h.hY
    have pl := begin_pl (C := C) h.s1 hD
    obtain ⟨u, hu⟩ : ∃ u, u = spbegin C s := ⟨_, rfl⟩
    rw [← hu] at pl ⊢
    have ly := pl.ly h.p hD
    rw [shas_bt _ (by omega), bt_slaid h.p hD (by omega)]
    have yn := h.p.yn hD hY hk
    by_cases e : wt t 0 40 (Int32.ofNat k) = -1
    · rw [if_pos (by simp [e]), if_pos (yn.mpr e)]; exact SIM.st h rfl
    · rw [if_neg (by simp [e, hk]), if_neg (fun q => e (yn.mp q))]
      exact ⟨offs_eq ly (pl.ck h.p hD h.cl h.hC) hD hY rfl hk (by rw [ly.1 k hk]; exact e), FC.W3 pl.1, FT.rf t, h.p.W3 pl.1 hD hY⟩
end QU
/-! the sum of quarrels -/
theorem sfold_last {α : Type} {f : Nat → α → α} (n k : Nat) (s : α) : sfold f (n + 1) k s = f (k + n) (sfold f n k s) := by
  rw [sfold_app n 1 k s]
  rfl
def sm (g : Nat → Int32) (n : Nat) : Int32 := sfold (fun k s => s + g k) n 0 0
theorem sm_s (g : Nat → Int32) (n : Nat) : sm g (n + 1) = sm g n + g n := by
  unfold sm
  rw [sfold_last, Nat.zero_add]
theorem sm_at (g : Nat → Int32) (x : Int32) : ∀ n, sfold (fun k s => s + g k) n 0 x = x + sm g n := by
  intro n
  induction n with
  | zero => exact (Int32.add_zero x).symm
  | succ n ih => rw [sfold_last, Nat.zero_add, ih, sm_s, Int32.add_assoc]
theorem sm_congr {g g' : Nat → Int32} : ∀ n, (∀ i, i < n → g i = g' i) → sm g n = sm g' n := by
  intro n
  induction n with
  | zero => intro _; rfl
  | succ n ih => intro h; rw [sm_s, sm_s, ih (fun i hi => h i (by omega)), h n (by omega)]
theorem sm_add (g g' : Nat → Int32) : ∀ n, sm (fun i => g i + g' i) n = sm g n + sm g' n := by
  intro n
  induction n with
  | zero => rfl
  | succ n ih => rw [sm_s, sm_s, sm_s, ih]; grind
theorem sm_zero {g : Nat → Int32} : ∀ n, (∀ i, i < n → g i = 0) → sm g n = 0 := by
  intro n
  induction n with
  | zero => intro _; rfl
  | succ n ih => intro h; rw [sm_s, ih (fun i hi => h i (by omega)), h n (by omega)]; rfl
theorem sm_more {g : Nat → Int32} {n N : Nat} (h : n ≤ N) (hz : ∀ i, n ≤ i → i < N → g i = 0) : sm g N = sm g n := by
  induction N with
  | zero => rw [show n = 0 by omega]
  | succ N ih =>
    by_cases e : n = N + 1
    · rw [e]
    · rw [sm_s, hz N (by omega) (by omega), Int32.add_zero]
      exact ih (by omega) (fun i h1 h2 => hz i h1 (by omega))
theorem sm_dbl (F : Nat → Nat → Int32) : ∀ n, sm (fun a => sm (F a) n) n = sm (fun a => F a a + sm (fun b => F a b + F b a) a) n := by
  intro n
  induction n with
  | zero => rfl
  | succ n ih =>
    rw [sm_s (fun a => sm (F a) (n + 1)), sm_s (fun a => F a a + sm (fun b => F a b + F b a) a), ← ih]
    have e : sm (fun a => sm (F a) (n + 1)) n = sm (fun a => sm (F a) n) n + sm (fun a => F a n) n := by
      rw [← sm_add]
      exact sm_congr n (fun i _ => sm_s (F i) n)
    rw [e, sm_s, sm_add]
    grind
section QV
variable {s t u : zmem} {X D Y C L W : Nat}
/-- two who lie: their quarrels -/
def qp (u : zmem) (a b : Nat) : Int32 := if u 53 a = -1 then 0 else if u 53 b = -1 then 0 else sqof u (Int32.ofNat a) (Int32.ofNat b)
def qF (t : zmem) (X C a b : Nat) : Int32 := roff t X C (Int32.ofNat b) (Int32.ofNat a) + (if rap t X a b = 0 then 0 else if ¬ t 63 a = t 63 b then 0 else 1)
theorem adj_tab : ∀ i, i < 8 → ∀ j, j < 8 → (rsize (Int32.ofNat i - Int32.ofNat j) = 1 ↔ rsize (Int32.ofNat j - Int32.ofNat i) = 1) := by decide +kernel
theorem qF_self (a : Nat) : qF t X C a a = 0 := by
  unfold qF rap roff
  rw [if_pos rfl, if_pos (Int32.le_refl _), if_pos rfl]
  rfl
theorem qF_pair (hl : LY u t X D Y) (hc : CK u t X C D) (hD : D ≤ 7) (hY : Y ≤ 8) {a b : Nat} (hab : b < a) (ha : a < D) : qF t X C a b + qF t X C b a = qp u a b := by
  have hb : b < D := by omega
  have r1 : rap t X a b = 0 := by unfold rap; rw [if_pos ((n_le (by omega) (by omega)).mpr (by omega))]
  have n2 : ¬ Int32.ofNat a ≤ Int32.ofNat b := fun q => by have := (n_le (by omega) (by omega)).mp q; omega
  unfold qF qp
  rw [if_pos r1, Int32.add_zero]
  have ya := yv_neg hl hY ha
  have yb := yv_neg hl hY hb
  by_cases ea : u 53 a = -1
  · rw [if_pos ea, roff0 hl hY hb ha (Or.inr ea), roff0 hl hY ha hb (Or.inl ea)]
    have : rap t X b a = 0 := by
      unfold rap
      rw [if_neg n2]
      by_cases q : wt t X 40 (Int32.ofNat b) < 0
      · rw [if_pos q]
      · rw [if_neg q, if_pos (ya.mpr ((hl.1 a ha).symm.trans ea))]
    rw [if_pos this]; rfl
  · rw [if_neg ea]
    by_cases eb : u 53 b = -1
    · rw [if_pos eb, roff0 hl hY hb ha (Or.inl eb), roff0 hl hY ha hb (Or.inr eb)]
      have : rap t X b a = 0 := by
        unfold rap
        rw [if_neg n2, if_pos (yb.mpr ((hl.1 b hb).symm.trans eb))]
      rw [if_pos this]; rfl
    · rw [if_neg eb]
      have o1 := off_eq hl hc hD hY hb ha eb ea
      have o2 := off_eq hl hc hD hY ha hb ea eb
      have nb : ¬ (roff t X C (Int32.ofNat b) (Int32.ofNat a) = 1 ∧ roff t X C (Int32.ofNat a) (Int32.ofNat b) = 1) := by
        intro ⟨q1, q2⟩
        have z1 : ¬ wt t X 40 (Int32.ofNat a) ≤ wt t X 40 (Int32.ofNat b) := by
          intro z
          unfold roff at q1
          rw [if_pos z] at q1
          split at q1
          · exact absurd q1 (by decide)
          · split at q1
            · exact absurd q1 (by decide)
            · split at q1
              · exact absurd q1 (by decide)
              · split at q1
                · exact absurd q1 (by decide)
                · exact absurd q1 (by decide)
        have z2 : ¬ wt t X 40 (Int32.ofNat b) ≤ wt t X 40 (Int32.ofNat a) := by
          intro z
          unfold roff at q2
          rw [if_pos z] at q2
          split at q2
          · exact absurd q2 (by decide)
          · split at q2
            · exact absurd q2 (by decide)
            · split at q2
              · exact absurd q2 (by decide)
              · split at q2
                · exact absurd q2 (by decide)
                · exact absurd q2 (by decide)
        exact z2 (Int32.le_of_lt (Int32.not_le.mp z1))
      have q1 : sqof1 u (Int32.ofNat a) (Int32.ofNat b) = roff t X C (Int32.ofNat b) (Int32.ofNat a) + roff t X C (Int32.ofNat a) (Int32.ofNat b) := by
        unfold sqof1
        rw [o1, o2]
        rcases roff01q (t := t) (X := X) (C := C) (Int32.ofNat b) (Int32.ofNat a) with e1 | e1 <;> rcases roff01q (t := t) (X := X) (C := C) (Int32.ofNat a) (Int32.ofNat b) with e2 | e2
        · rw [e1, e2]; decide
        · rw [e1, e2]; decide
        · rw [e1, e2]; decide
        · exact absurd ⟨e1, e2⟩ nb
      have sd : (sside u (Int32.ofNat a) (Int32.ofNat b) = 0) ↔ ¬ rap t X b a = 0 := by
        unfold sside rap
        rw [aat_k (show a < 7 by omega) (by decide), aat_k (show b < 7 by omega) (by decide), abs_eq, hl.1 a ha, hl.1 b hb, if_neg n2, if_neg (fun q => eb ((hl.1 b hb).trans (yb.mp q))), if_neg (fun q => ea ((hl.1 a ha).trans (ya.mp q)))]
        rcases hl.2.2 a ha with z | ⟨i, hi, z⟩
        · exact absurd ((hl.1 a ha).trans z) ea
        · rcases hl.2.2 b hb with z' | ⟨j, hj, z'⟩
          · exact absurd ((hl.1 b hb).trans z') eb
          · rw [z, z']
            have tb := adj_tab i (by omega) j (by omega)
            by_cases w : rsize (Int32.ofNat j - Int32.ofNat i) = 1
            · rw [if_pos w, if_neg (fun q => q (tb.mpr w))]; decide
            · rw [if_neg w, if_pos (fun q => w (tb.mp q))]; decide
      unfold sqof
      rw [aat_k (show a < 7 by omega) (by decide), shas_bt _ (show b < 31 by omega), (hc a ha b hb).2, q1]
      by_cases k1 : t 63 a = t 63 b
      · rw [if_neg (show ¬ (if decide (t 63 a = t 63 b) = true then (1 : Int32) else 0) = 0 by simp [k1])]
        by_cases k2 : sside u (Int32.ofNat a) (Int32.ofNat b) = 0
        · rw [if_neg (fun q : ¬ sside u (Int32.ofNat a) (Int32.ofNat b) = 0 => q k2), if_neg (sd.mp k2), if_neg (fun q : ¬ t 63 b = t 63 a => q k1.symm), Int32.add_assoc]
        · rw [if_pos k2, if_pos (Classical.byContradiction (fun z => k2 (sd.mpr z))), Int32.add_zero]
      · rw [if_pos (show (if decide (t 63 a = t 63 b) = true then (1 : Int32) else 0) = 0 by simp [k1])]
        by_cases k2 : rap t X b a = 0
        · rw [if_pos k2, Int32.add_zero]
        · rw [if_neg k2, if_pos (fun q => k1 q.symm), Int32.add_zero]
theorem qam_eq (d A : Nat) (hA : A ≤ 7) (hd : d < 7) : sqam u (Int32.ofNat d) A = sm (fun k => if k = d then 0 else if u 53 k = -1 then 0 else sqof u (Int32.ofNat d) (Int32.ofNat k)) A := by
  unfold sqam sm
  refine sfold_congr A 0 _ (fun k st _ hk => ?_)
  show _ = st + (if k = d then 0 else if u 53 k = -1 then 0 else sqof u (Int32.ofNat d) (Int32.ofNat k))
  rw [aat_k (by omega) (by decide)]
  by_cases e : k = d
  · rw [if_pos (by rw [e]), if_pos e, Int32.add_zero]
  · rw [if_neg (fun q => e (ofNat_inj q (by omega) (by omega))), if_neg e]
    by_cases e2 : u 53 k = -1
    · rw [if_pos e2, if_pos e2, Int32.add_zero]
    · rw [if_neg e2, if_neg e2]
theorem qnow_sm : sqnow u = sm (fun a => sm (fun b => qp u a b) a) 7 := by
  unfold sqnow
  show _ = sfold _ 7 0 0
  refine sfold_congr 7 0 _ (fun k st _ hk => ?_)
  show _ = st + sm (fun b => qp u k b) k
  rw [aat_k (by omega) (by decide)]
  by_cases e : u 53 k = -1
  · rw [if_pos e, sm_zero k (fun i hi => by unfold qp; rw [if_pos e]), Int32.add_zero]
  · rw [if_neg e, qam_eq k k (by omega) (by omega)]
    congr 1
    refine sm_congr k (fun i hi => ?_)
    unfold qp
    rw [if_neg (show ¬ i = k by omega), if_neg e]
theorem rquar_sm : rquar t X C D = sm (fun a => sm (qF t X C a) D) D := by
  unfold rquar
  show _ = sfold _ D 0 0
  refine sfold_congr D 0 _ (fun a st _ ha => ?_)
  show sfold (fun b s => s + qF t X C a b) D 0 st = _
  exact sm_at _ _ D
theorem quar_eq (hl : LY u t X D Y) (hc : CK u t X C D) (hD : D ≤ 7) (hY : Y ≤ 8) : sqnow u = rquar t X C D := by
  rw [qnow_sm, rquar_sm, sm_dbl, sm_more (n := D) (N := 7) hD (fun a h1 h2 => sm_zero a (fun b hb => by unfold qp; rw [if_pos (hl.2.1 a h1 h2)]))]
  refine sm_congr D (fun a ha => ?_)
  rw [qF_self, Int32.zero_add]
  exact sm_congr a (fun b hb => (qF_pair hl hc hD hY hb ha).symm)
theorem S_quarrels (h : RP s t D Y C L W) : SIM s t D Y (sqnow (spbegin C s), spbegin C s) (rquar t 0 C D, t) := by
  have hD := h.hD
  have hY := h.hY
  have pl := begin_pl (C := C) h.s1 hD
  obtain ⟨u, hu⟩ : ∃ u, u = spbegin C s := ⟨_, rfl⟩
  rw [← hu] at pl ⊢
  exact ⟨quar_eq (pl.ly h.p hD) (pl.ck h.p hD h.cl h.hC) hD hY, FC.W3 pl.1, FT.rf t, h.p.W3 pl.1 hD hY⟩
end QV
/-! the book judged -/
section JU
variable {s t s' u : zmem} {X D Y C L W : Nat}
theorem bt_ssfX (h : PR s 7 t X D Y) (hD : D ≤ 7) (hY : Y ≤ 8) {j : Nat} (hj : j < 31) : bt (ssf s 7 D Y) j = (decide (j < Y) && decide (wt t X 0 (Int32.ofNat j) = 0 ∧ ¬ 0 ≤ rwho t X D (Int32.ofNat j))) := by
  unfold ssf
  rw [bt_and, bt_not _ (by omega), bt_ssoft h hY (by omega)]
  have tk : bt (staken s 7 D) j = decide (0 ≤ rwho t X D (Int32.ofNat j)) := by
    have := bt_taken h hD hY hj
    rw [← who_pos t X hD] at this
    by_cases e : 0 ≤ rwho t X D (Int32.ofNat j)
    · rw [this.mpr e]; simp [e]
    · rw [Bool.eq_false_iff.mpr (fun q => e (this.mp q))]; simp [e]
  rw [tk]
  by_cases e1 : j < Y <;> by_cases e2 : wt t X 0 (Int32.ofNat j) = 0 <;> by_cases e3 : 0 ≤ rwho t X D (Int32.ofNat j) <;> simp [e1, e2, e3]
theorem lay_at {k i : Nat} (hk : k < 8) (hi : i < 8) : (∀ q, q ≠ 58 → rlaym t X (Int32.ofNat k) (Int32.ofNat i) q = t q) ∧ ∀ x, x ≠ X + 72 → rlaym t X (Int32.ofNat k) (Int32.ofNat i) 58 x = if x = X + 40 + k then Int32.ofNat i else if x = X + i then 0 else t 58 x := by
  have e : rlaym t X (Int32.ofNat k) (Int32.ofNat i) = mset (mset (mset t 58 (X + 0 + i) 0) 58 (X + 40 + k) (Int32.ofNat i)) 58 (X + 72) (wt (rlay2 t X (Int32.ofNat k) (Int32.ofNat i)) X 72 0 + (wt t X 0 (Int32.ofNat i) + 4)) := by
    unfold rlaym
    have e2 : rlay2 t X (Int32.ofNat k) (Int32.ofNat i) = mset (mset t 58 (X + 0 + i) 0) 58 (X + 40 + k) (Int32.ofNat i) := by
      unfold rlay2
      rw [wp_k (by omega), wp_k (by omega)]
    rw [← e2]
    rfl
  rw [e]
  refine ⟨fun q hq => by rw [mset_cell _ hq, mset_cell _ hq, mset_cell _ hq], fun x hx => ?_⟩
  rw [mset_ne _ (by omega)]
  by_cases z : x = X + 40 + k
  · rw [if_pos z, z, mset_eq]
  · rw [if_neg z, mset_ne _ (by omega)]
    by_cases z2 : x = X + i
    · rw [if_pos z2, z2]
      exact mset_eq _ _ _ _
    · rw [if_neg z2, mset_ne _ (by omega)]
/-- cells that a laying leaves -/
theorem slay_c (d i : Int32) {q : Nat} (h7 : q ≠ 7) (h8 : q ≠ 8) (h14 : q ≠ 14) : slay s 7 d i q = s q := by
  unfold slay slay2
  rw [mset_cell _ h7, aput_ne h14, aput_ne h8]
theorem slay_7 (d i : Int32) {j : Nat} (hj : j ≠ 14) : slay s 7 d i 7 j = s 7 j := by
  unfold slay slay2
  rw [mset_ne _ (by omega), aput_ne (by decide), aput_ne (by decide)]
theorem first_same (h : ∀ q, (q = 4 ∨ (9 ≤ q ∧ q ≤ 13)) → s' q = s q) (lf : Int32) : sfirst s' 7 3 C D lf = sfirst s 7 3 C D lf := by
  unfold sfirst surg sclaim sworth
  rw [h (3 + 1) (by decide), h (7 + 2) (by decide), h (7 + 3) (by decide), h (7 + 4) (by decide), h (7 + 5) (by decide), h (7 + 6) (by decide)]
def JI (s u t : zmem) (D Y C : Nat) : Prop := PR u 7 t 100 D Y ∧ u 7 1 = Int32.ofNat D ∧ CL u t C ∧ ∀ q, (q = 4 ∨ (9 ≤ q ∧ q ≤ 13)) → u q = s q
theorem jud_lay (h : JI s u t D Y C) (hD : D ≤ 7) (hY : Y ≤ 8) {k i : Nat} (hk : k < D) (hi : i < Y) (hin : inl t 100 k = true) (hfr : ¬ 0 ≤ rwho t 100 D (Int32.ofNat i)) : JI s (slay u 7 (Int32.ofNat k) (Int32.ofNat i)) (rlaym t 100 (Int32.ofNat k) (Int32.ofNat i)) D Y C ∧ swait u 7 D &&& (sbit (Int32.ofNat k) ^^^ -1) = swait (slay u 7 (Int32.ofNat k) (Int32.ofNat i)) 7 D ∧ ssf u 7 D Y &&& (sbit (Int32.ofNat i) ^^^ -1) = ssf (slay u 7 (Int32.ofNat k) (Int32.ofNat i)) 7 D Y := by
  obtain ⟨p, h1, h2, h3⟩ := h
  have nb : ∀ j, j < D → ¬ wt t 100 40 (Int32.ofNat j) = Int32.ofNat i := fun m hm e => hfr ((who_pos t 100 hD _).mpr ⟨m, hm, e⟩)
  have g := p.lay hD hY hk hi nb
  have at' := lay_at (t := t) (X := 100) (k := k) (i := i) (by omega) (by omega)
  have u1 : slay u 7 (Int32.ofNat k) (Int32.ofNat i) 7 1 = Int32.ofNat D := by rw [slay_7 _ _ (by decide)]; exact h1
  have wy : ∀ j, j < 8 → wt (rlaym t 100 (Int32.ofNat k) (Int32.ofNat i)) 100 40 (Int32.ofNat j) = if j = k then Int32.ofNat i else wt t 100 40 (Int32.ofNat j) := fun j hj => by
    rw [wt_k (by omega), wt_k (by omega), at'.2 _ (by omega)]
    by_cases z : j = k
    · rw [if_pos (by omega), if_pos z]
    · rw [if_neg (by omega), if_neg z, if_neg (by omega)]
  have wf : ∀ j, j < 8 → wt (rlaym t 100 (Int32.ofNat k) (Int32.ofNat i)) 100 0 (Int32.ofNat j) = if j = i then 0 else wt t 100 0 (Int32.ofNat j) := fun j hj => by
    rw [wt_k (by omega), wt_k (by omega), at'.2 _ (by omega), if_neg (by omega)]
    by_cases z : j = i
    · rw [if_pos (by omega), if_pos z]
    · rw [if_neg (by omega), if_neg z]
  have wk : ∀ j, j < 8 → wt (rlaym t 100 (Int32.ofNat k) (Int32.ofNat i)) 100 48 (Int32.ofNat j) = wt t 100 48 (Int32.ofNat j) := fun j hj => by
    rw [wt_k (by omega), wt_k (by omega), at'.2 _ (by omega), if_neg (by omega), if_neg (by omega)]
  refine ⟨⟨g, u1, fun x hx => ?_, fun q hq => by rw [slay_c _ _ (by omega) (by omega) (by omega)]; exact h3 q hq⟩, ?_, ?_⟩
  · rw [slay_c _ _ (by decide) (by decide) (by decide), at'.1 65 (by decide)]; exact h2 x hx
  · apply bt_ext
    intro j hj
    rw [bt_and, bt_not _ hj, bt_sbit (by omega) hj, bt_swait p h1 hD hj, bt_swait g u1 hD hj]
    by_cases e : j < D
    · unfold inl
      rw [wy j (by omega), wk j (by omega)]
      by_cases z : j = k
      · subst z
        have : ∀ i, i < 8 → ¬ Int32.ofNat i = -1 := by decide +kernel
        simp [this i (by omega)]
      · simp [z, Ne.symm z, e]
    · simp [e]
  · apply bt_ext
    intro j hj
    rw [bt_and, bt_not _ hj, bt_sbit (by omega) hj]
    by_cases e : j < Y
    · rw [bt_ssfX p hD hY (by omega), bt_ssfX g hD hY (by omega), wf j (by omega)]
      have wp1 := who_pos t 100 hD (Int32.ofNat j)
      have wp2 := who_pos (rlaym t 100 (Int32.ofNat k) (Int32.ofNat i)) 100 hD (Int32.ofNat j)
      by_cases z : j = i
      · subst z
        have : 0 ≤ rwho (rlaym t 100 (Int32.ofNat k) (Int32.ofNat j)) 100 D (Int32.ofNat j) := wp2.mpr ⟨k, hk, by rw [wy k (by omega), if_pos rfl]⟩
        simp [this]
      · have eq : 0 ≤ rwho (rlaym t 100 (Int32.ofNat k) (Int32.ofNat i)) 100 D (Int32.ofNat j) ↔ 0 ≤ rwho t 100 D (Int32.ofNat j) := by
          rw [wp1, wp2]
          constructor
          · intro ⟨m, hm, q⟩
            rw [wy m (by omega)] at q
            by_cases y : m = k
            · rw [if_pos y] at q
              exact absurd (ofNat_inj q (by omega) (by omega)).symm z
            · rw [if_neg y] at q
              exact ⟨m, hm, q⟩
          · intro ⟨m, hm, q⟩
            refine ⟨m, hm, ?_⟩
            rw [wy m (by omega)]
            by_cases y : m = k
            · subst y
              unfold inl at hin
              have := of_decide_eq_true ((Bool.and_eq_true _ _).mp hin).1
              rw [this] at q
              have tab : ∀ j, j < 8 → ¬ (-1 : Int32) = Int32.ofNat j := by decide +kernel
              exact absurd q (tab j (by omega))
            · rw [if_neg y]; exact q
        simp only [eq, if_neg z]
        simp [Ne.symm z]
    · have hz : ∀ (w : zmem), PR w 7 t 100 D Y → bt (ssf w 7 D Y) j = false := fun w hw => by
        unfold ssf
        rw [bt_and, bt_ssoft hw hY hj, decide_eq_false e, Bool.false_and, Bool.false_and]
      have hz2 : bt (ssf (slay u 7 (Int32.ofNat k) (Int32.ofNat i)) 7 D Y) j = false := by
        unfold ssf
        rw [bt_and, bt_ssoft g hY hj, decide_eq_false e, Bool.false_and, Bool.false_and]
      rw [hz u p, hz2, Bool.false_and]
theorem jud_st (hD : D ≤ 7) (hY : Y ≤ 8) (hC : C ≤ 4) (bk : ∀ k, k < W → s 48 k = t 73 k ∧ s 49 k = t 74 k ∧ (∃ j, j < D ∧ t 73 k = Int32.ofNat j) ∧ ∃ j, j < Y ∧ t 74 k = Int32.ofNat j) (hW : W ≤ 20) : ∀ n k u mm, k + n = W → JI s u mm D Y C → (mm 73 = t 73 ∧ mm 74 = t 74) → sk_jud s D C n k (swait u 7 D) (ssf u 7 D Y) = (rjud D C n k mm).1 ∧ ∀ q x, ¬ (q = 58 ∧ 100 ≤ x ∧ x < 200) → (rjud D C n k mm).2 q x = mm q x := by
  intro n
  induction n with
  | zero => intro k u mm _ _ _; exact ⟨rfl, fun _ _ _ => rfl⟩
  | succ n ih =>
    intro k u mm hk hJ hm
    obtain ⟨e48, e49, ⟨d, hd, ed⟩, ⟨i, hi, ei⟩⟩ := bk k (by omega)
    obtain ⟨p, h1, h2, h3⟩ := id hJ
    have od := order0 p h1 hD hY h2 hC
    rw [first_same h3] at od
    have key : ∀ (a b c : Int32) (F : Int32 × zmem), True := fun _ _ _ _ => trivial
    show (if shas (swait u 7 D) (aat 20 (s 48) (Int32.ofNat k)) = 0 then Int32.ofNat k else if shas (ssf u 7 D Y) (aat 20 (s 49) (Int32.ofNat k)) = 0 then Int32.ofNat k else if aat 20 (s 48) (Int32.ofNat k) = (sfirst s 7 3 C D (swait u 7 D)).1 then sk_jud s D C n (k + 1) (swait u 7 D &&& (sbit (aat 20 (s 48) (Int32.ofNat k)) ^^^ -1)) (ssf u 7 D Y &&& (sbit (aat 20 (s 49) (Int32.ofNat k)) ^^^ -1)) else Int32.ofNat k) = (if rlf mm 100 (mm 73 k) = 0 then (Int32.ofNat k, mm) else if 0 ≤ rwho mm 100 D (mm 74 k) then (Int32.ofNat k, mm) else if 0 < wt mm 100 0 (mm 74 k) then (Int32.ofNat k, mm) else if rorder mm 100 C D 0 = mm 73 k then rjud D C n (k + 1) (rlaym mm 100 (mm 73 k) (mm 74 k)) else (Int32.ofNat k, mm)).1 ∧ ∀ q x, ¬ (q = 58 ∧ 100 ≤ x ∧ x < 200) → (if rlf mm 100 (mm 73 k) = 0 then (Int32.ofNat k, mm) else if 0 ≤ rwho mm 100 D (mm 74 k) then (Int32.ofNat k, mm) else if 0 < wt mm 100 0 (mm 74 k) then (Int32.ofNat k, mm) else if rorder mm 100 C D 0 = mm 73 k then rjud D C n (k + 1) (rlaym mm 100 (mm 73 k) (mm 74 k)) else (Int32.ofNat k, mm)).2 q x = mm q x
    rw [aat_k (show k < 20 by omega) (by decide), aat_k (show k < 20 by omega) (by decide), hm.1, hm.2, e48, e49, ed, ei, wait_lf p h1 hD hY hd, od]
    by_cases c1 : rlf mm 100 (Int32.ofNat d) = 0
    · rw [if_pos c1, if_pos c1]; exact ⟨rfl, fun _ _ _ => rfl⟩
    · rw [if_neg c1, if_neg c1, shas_bt _ (show i < 31 by omega), bt_ssfX p hD hY (by omega)]
      have hin : inl mm 100 d = true := by
        rw [p.lf hD hY hd] at c1
        by_cases z : inl mm 100 d = true
        · exact z
        · rw [if_neg z] at c1; exact absurd rfl c1
      have fr0 : 0 < wt mm 100 0 (Int32.ofNat i) ↔ ¬ wt mm 100 0 (Int32.ofNat i) = 0 := by
        obtain ⟨f, hf, ef⟩ := nat_of (n := 99) (by decide) (p.1 1 (Or.inl rfl) i hi).2.1 (p.1 1 (Or.inl rfl) i hi).2.2
        have ef : wt mm 100 0 (Int32.ofNat i) = Int32.ofNat f := by rw [wt_k (by omega)]; exact ef
        have tab : ∀ f, f < 100 → (0 < Int32.ofNat f ↔ ¬ Int32.ofNat f = 0) := by decide +kernel
        rw [ef]; exact tab f (by omega)
      by_cases c2 : 0 ≤ rwho mm 100 D (Int32.ofNat i)
      · rw [if_pos (by simp [c2]), if_pos c2]; exact ⟨rfl, fun _ _ _ => rfl⟩
      · by_cases c3 : wt mm 100 0 (Int32.ofNat i) = 0
        · rw [if_neg (show ¬ (if (decide (i < Y) && decide (wt mm 100 0 (Int32.ofNat i) = 0 ∧ ¬ 0 ≤ rwho mm 100 D (Int32.ofNat i))) = true then (1 : Int32) else 0) = 0 by simp [hi, c3, c2]), if_neg c2, if_neg (fun q => fr0.mp q c3)]
          by_cases c4 : Int32.ofNat d = (sfirst s 7 3 C D (swait u 7 D)).1
          · rw [if_pos c4, if_pos c4.symm]
            obtain ⟨j1, j2, j3⟩ := jud_lay hJ hD hY hd hi hin c2
            have at' := lay_at (t := mm) (X := 100) (k := d) (i := i) (by omega) (by omega)
            rw [j2, j3]
            obtain ⟨g1, g2⟩ := ih (k + 1) _ _ (by omega) j1 ⟨(at'.1 73 (by decide)).trans hm.1, (at'.1 74 (by decide)).trans hm.2⟩
            refine ⟨g1, fun q x hq => (g2 q x hq).trans ?_⟩
            by_cases z : q = 58
            · subst z
              rw [at'.2 x (by omega), if_neg (by omega), if_neg (by omega)]
            · rw [at'.1 q z]
          · rw [if_neg c4, if_neg (fun q => c4 q.symm)]; exact ⟨rfl, fun _ _ _ => rfl⟩
        · rw [if_pos (show (if (decide (i < Y) && decide (wt mm 100 0 (Int32.ofNat i) = 0 ∧ ¬ 0 ≤ rwho mm 100 D (Int32.ofNat i))) = true then (1 : Int32) else 0) = 0 by simp [c3]), if_neg c2, if_pos (fr0.mpr c3)]; exact ⟨rfl, fun _ _ _ => rfl⟩
theorem S_judge (h : RP s t D Y C L W) : SIM s t D Y (sk_jud s D C W 0 (swait s 7 D) (ssf s 7 D Y), s) (rk_judge t D C W) := by
  have hD := h.hD
  have hY := h.hY
  obtain ⟨t0, et0⟩ : ∃ x, x = rcopy t 0 100 := ⟨_, rfl⟩
  have c0 : ∀ q, q ≠ 58 → t0 q = t q := fun q hq => by rw [et0]; exact rcopy_c t (by omega) hq
  have r0 : ∀ i, (i < 100 ∨ 200 ≤ i) → t0 58 i = t 58 i := fun i hi => by rw [et0]; exact rcopy_out t (by omega) (by omega)
  have p0 : PR s 7 t0 100 D Y := h.p.move hD hY (fun _ _ _ _ _ => rfl) ⟨rfl, rfl, rfl⟩ (fun j hj => by rw [et0]; exact rcopy_in t (by omega) hj) (c0 63 (by decide))
  unfold rk_judge
  rw [← et0]
  obtain ⟨g1, g2⟩ := jud_st (s := s) (t := t) hD hY h.hC h.bk h.W1.2.2 W 0 s t0 (by omega) ⟨p0, h.s1, fun k hk => by rw [c0 65 (by decide)]; exact h.cl k hk, fun _ _ => rfl⟩ ⟨c0 73 (by decide), c0 74 (by decide)⟩
  refine ⟨g1, FC.rf s, ⟨fun q hq => ?_, fun i hi => ?_, fun i hi => ?_⟩, h.p.congr (fun _ _ => rfl) (fun j hj => ?_) ?_ hD hY⟩
  · funext x
    rw [g2 q x (by rintro ⟨rfl, _⟩; cases hq), c0 q (by rintro rfl; cases hq)]
  · rw [g2 58 i (by omega), r0 i (by omega)]
  · rw [g2 57 i (by omega), c0 57 (by decide)]
  · rw [g2 58 _ (by omega), r0 _ (by omega)]
  · funext x
    rw [g2 63 x (by omega), c0 63 (by decide)]
end JU
/-! names: all that fit -/
def pcn (k : Nat) : Nat := (rones (Int32.ofNat k)).toNatClampNeg
def mem (k j : Nat) : Bool := bt (Int32.ofNat k) j
theorem pcn_tab : ∀ k, k < 128 → rones (Int32.ofNat k) = Int32.ofNat (pcn k) ∧ pcn k ≤ 7 ∧ (pcn k = 0 ↔ k = 0) := by decide +kernel
theorem mem_t1 : ∀ k, k < 128 → ∀ j, j < 7 → mem k j = true → 2 ^ j ≤ k ∧ rr (Int32.ofNat k) j = Int32.ofNat (k - 2 ^ j) := by decide +kernel
theorem mem_t2 : ∀ k, k < 128 → ∀ j, j < 7 → mem k j = true → pcn (k - 2 ^ j) + 1 = pcn k ∧ mem (k - 2 ^ j) j = false := by decide +kernel
theorem mem_t3 : ∀ k, k < 128 → ∀ j, j < 7 → mem k j = false → k + 2 ^ j < 256 ∧ (Int32.ofNat k ||| sbit (Int32.ofNat j)) = Int32.ofNat (k + 2 ^ j) ∧ mem (k + 2 ^ j) j = true := by decide +kernel
theorem mem_tab (k : Nat) (hk : k < 128) (j : Nat) (hj : j < 7) : (mem k j = true → 2 ^ j ≤ k ∧ rr (Int32.ofNat k) j = Int32.ofNat (k - 2 ^ j) ∧ pcn (k - 2 ^ j) + 1 = pcn k ∧ mem (k - 2 ^ j) j = false) ∧ (mem k j = false → k + 2 ^ j < 256 ∧ (k + 2 ^ j < 128 → mem (k + 2 ^ j) j = true) ∧ (Int32.ofNat k ||| sbit (Int32.ofNat j)) = Int32.ofNat (k + 2 ^ j)) :=
  ⟨fun h => ⟨(mem_t1 k hk j hj h).1, (mem_t1 k hk j hj h).2, (mem_t2 k hk j hj h).1, (mem_t2 k hk j hj h).2⟩, fun h => ⟨(mem_t3 k hk j hj h).1, fun _ => (mem_t3 k hk j hj h).2.2, (mem_t3 k hk j hj h).2.1⟩⟩
theorem full_t1 : ∀ D, D < 8 → ∀ k, k < 2 ^ D → pcn (2 ^ D - 1 - k) + pcn k = D := by decide +kernel
theorem full_t2 : ∀ D, D < 8 → ∀ k, k < 2 ^ D → ∀ j, j < D → (mem (2 ^ D - 1 - k) j = !mem k j) := by decide +kernel
theorem full_t3 : ∀ D, D < 8 → ∀ k, k < 2 ^ D → ∀ j, j < D → mem k j = false → k + 2 ^ j < 2 ^ D := by decide +kernel
theorem full_tab (D : Nat) (hD : D < 8) (k : Nat) (_ : k < 128) (hk : k < 2 ^ D) : pcn (2 ^ D - 1 - k) + pcn k = D ∧ ∀ j, j < 7 → j < D → (mem (2 ^ D - 1 - k) j = !mem k j) ∧ (mem k j = false → k + 2 ^ j < 2 ^ D) :=
  ⟨full_t1 D hD k hk, fun j _ hj => ⟨full_t2 D hD k hk j hj, full_t3 D hD k hk j hj⟩⟩
def lsum (g : Nat → Int32) (l : List Nat) : Int32 := l.foldr (fun x s => g x + s) 0
theorem lsum_app (g : Nat → Int32) (l l' : List Nat) : lsum g (l ++ l') = lsum g l + lsum g l' := by
  induction l with
  | nil => show lsum g l' = 0 + lsum g l'; rw [Int32.zero_add]
  | cons a l ih => show g a + lsum g (l ++ l') = g a + lsum g l + lsum g l'; rw [ih, Int32.add_assoc]
theorem lsum_perm {g : Nat → Int32} {l l' : List Nat} (h : l.Perm l') : lsum g l = lsum g l' := by
  induction h with
  | nil => rfl
  | cons x _ ih => exact congrArg (fun y => g x + y) ih
  | swap x y l => show g y + (g x + lsum g l) = g x + (g y + lsum g l); grind
  | trans _ _ i1 i2 => exact i1.trans i2
theorem lsum_map (g : Nat → Int32) (f : Nat → Nat) (l : List Nat) : lsum g (l.map f) = lsum (fun x => g (f x)) l := by
  induction l with
  | nil => rfl
  | cons a l ih => show g (f a) + lsum g (l.map f) = g (f a) + _; rw [ih]; rfl
theorem sm_l (g : Nat → Int32) : ∀ n, sm g n = lsum g (List.range n) := by
  intro n
  induction n with
  | zero => rfl
  | succ n ih =>
    rw [sm_s, List.range_succ, lsum_app, ih]
    show _ = _ + (g n + 0)
    rw [Int32.add_zero]
def flp (k j : Nat) : Nat := if mem k j = true then k - 2 ^ j else k + 2 ^ j
theorem flp_perm : ∀ D, D < 8 → ∀ j, j < 7 → j < D → ((List.range (2 ^ D)).map (fun k => flp k j)).isPerm (List.range (2 ^ D)) = true := by decide +kernel
theorem sm_flp {D j : Nat} (hD : D ≤ 7) (hj : j < D) (g : Nat → Int32) : sm (fun k => g (flp k j)) (2 ^ D) = sm g (2 ^ D) := by
  rw [sm_l, sm_l, ← lsum_map g (fun k => flp k j)]
  exact lsum_perm (List.isPerm_iff.mp (flp_perm D (by omega) j (by omega) hj))
theorem sm_swap (F : Nat → Nat → Int32) (m : Nat) : ∀ n, sm (fun a => sm (F a) m) n = sm (fun b => sm (fun a => F a b) n) m := by
  intro n
  induction n with
  | zero => exact (sm_zero m (fun _ _ => rfl)).symm
  | succ n ih =>
    rw [sm_s, ih, ← sm_add]
    exact sm_congr m (fun i _ => (sm_s (fun a => F a i) n).symm)
theorem sm_mul (g : Nat → Int32) (c : Int32) : ∀ n, sm g n * c = sm (fun i => g i * c) n := by
  intro n
  induction n with
  | zero => show (0 : Int32) * c = 0; grind
  | succ n ih => rw [sm_s, sm_s, ← ih]; grind
theorem sm_mulL (g : Nat → Int32) (c : Int32) : ∀ n, c * sm g n = sm (fun i => c * g i) n := by
  intro n
  induction n with
  | zero => show c * (0 : Int32) = 0; grind
  | succ n ih => rw [sm_s, sm_s, ← ih]; grind
theorem sm_one {g : Nat → Int32} {i : Nat} : ∀ n, i < n → (∀ k, k < n → k ≠ i → g k = 0) → sm g n = g i := by
  intro n
  induction n with
  | zero => intro h _; omega
  | succ n ih =>
    intro h hz
    rw [sm_s]
    by_cases e : i = n
    · subst e
      rw [sm_zero i (fun k hk => hz k (by omega) (by omega)), Int32.zero_add]
    · rw [ih (by omega) (fun k hk hne => hz k (by omega) hne), hz n (by omega) (by omega), Int32.add_zero]
/-- from the first on and from the last on: as many ways -/
theorem ways_eq {D : Nat} (hD : D ≤ 7) {a b M : Nat → Int32} (a0 : a 0 = 1) (b0 : b 0 = 1) (ha : ∀ k, 0 < k → k < 2 ^ D → a k = sm (fun j => if (mem k j && bt (M (pcn k - 1)) j) = true then a (k - 2 ^ j) else 0) D) (hb : ∀ k, 0 < k → k < 2 ^ D → b k = sm (fun j => if (mem k j && bt (M (D - pcn k)) j) = true then b (k - 2 ^ j) else 0) D) : a (2 ^ D - 1) = b (2 ^ D - 1) := by
  have h2 := two_D hD
  have hp := Nat.two_pow_pos D
  let G : Nat → Int32 := fun q => sm (fun S => if pcn S = q then a S * b (2 ^ D - 1 - S) else 0) (2 ^ D)
  have step : ∀ q, q < D → G q = G (q + 1) := by
    intro q hq
    have e1 : G (q + 1) = sm (fun S => sm (fun j => if pcn S = q + 1 ∧ mem S j = true ∧ bt (M q) j = true then a (S - 2 ^ j) * b (2 ^ D - 1 - S) else 0) D) (2 ^ D) := by
      refine sm_congr _ (fun S hS => ?_)
      by_cases e : pcn S = q + 1
      · rw [if_pos e, ha S (by have := (pcn_tab S (by omega)).2.2; omega) hS, sm_mul]
        refine sm_congr D (fun j _ => ?_)
        rw [e, Nat.add_sub_cancel]
        by_cases m1 : mem S j = true <;> by_cases m2 : bt (M q) j = true
        · rw [if_pos (by simp [m1, m2]), if_pos ⟨rfl, m1, m2⟩]
        · rw [if_neg (by simp [m2]), if_neg (fun z => m2 z.2.2)]; grind
        · rw [if_neg (by simp [m1]), if_neg (fun z => m1 z.2.1)]; grind
        · rw [if_neg (by simp [m1]), if_neg (fun z => m1 z.2.1)]; grind
      · rw [if_neg e]
        exact (sm_zero D (fun j _ => if_neg (fun z => e z.1))).symm
    have e2 : G q = sm (fun T => sm (fun j => if pcn T = q ∧ mem T j = false ∧ bt (M q) j = true then a T * b (2 ^ D - 1 - T - 2 ^ j) else 0) D) (2 ^ D) := by
      refine sm_congr _ (fun T hT => ?_)
      have ft := full_tab D (by omega) T (by omega) hT
      by_cases e : pcn T = q
      · have hpos : 0 < 2 ^ D - 1 - T := by
          apply Nat.pos_of_ne_zero
          intro z
          have := ft.1
          rw [z] at this
          have := (pcn_tab 0 (by decide)).2.2.mpr rfl
          omega
        rw [if_pos e, hb _ hpos (by omega), sm_mulL]
        refine sm_congr D (fun j hj => ?_)
        have fj := (ft.2 j (by omega) hj).1
        rw [show D - pcn (2 ^ D - 1 - T) = q by omega, fj]
        by_cases m1 : mem T j = true <;> by_cases m2 : bt (M q) j = true
        · rw [if_neg (by simp [m1]), if_neg (fun z => by rw [m1] at z; exact absurd z.2.1 (by decide))]; grind
        · rw [if_neg (by simp [m1]), if_neg (fun z => m2 z.2.2)]; grind
        · rw [if_pos (by simp [m1, m2]), if_pos ⟨e, by simpa using m1, m2⟩]
        · rw [if_neg (by simp [m2]), if_neg (fun z => m2 z.2.2)]; grind
      · rw [if_neg e]
        exact (sm_zero D (fun j _ => if_neg (fun z => e z.1))).symm
    rw [e1, e2]
    refine (sm_swap _ D (2 ^ D)).trans (Eq.trans (Eq.symm ?_) (sm_swap _ D (2 ^ D)).symm)
    refine sm_congr D (fun j hj => ?_)
    rw [← sm_flp hD hj (fun T => if pcn T = q ∧ mem T j = false ∧ bt (M q) j = true then a T * b (2 ^ D - 1 - T - 2 ^ j) else 0)]
    refine sm_congr _ (fun S hS => ?_)
    have mt := mem_tab S (by omega) j (by omega)
    have ft := (full_tab D (by omega) S (by omega) hS).2 j (by omega) hj
    unfold flp
    by_cases m1 : mem S j = true
    · obtain ⟨x1, x2, x3, x4⟩ := mt.1 m1
      rw [if_pos m1]
      by_cases m2 : pcn S = q + 1 ∧ mem S j = true ∧ bt (M q) j = true
      · rw [if_pos m2, if_pos ⟨by omega, x4, m2.2.2⟩, show 2 ^ D - 1 - (S - 2 ^ j) - 2 ^ j = 2 ^ D - 1 - S by omega]
      · rw [if_neg m2, if_neg (fun z => m2 ⟨by omega, m1, z.2.2⟩)]
    · have m1' : mem S j = false := by simpa using m1
      have y := (mt.2 m1').2.1 (by have := ft.2 m1'; omega)
      rw [if_neg m1, if_neg (fun z => m1 z.2.1), if_neg (fun z => by rw [y] at z; exact absurd z.2.1 (by decide))]
  have all : ∀ q, q ≤ D → G 0 = G q := by
    intro q
    induction q with
    | zero => intro _; rfl
    | succ q ih => intro h; exact (ih (by omega)).trans (step q (by omega))
  have g0 : G 0 = b (2 ^ D - 1) := by
    show sm _ _ = _
    rw [sm_one (i := 0) (2 ^ D) hp (fun k hk hne => if_neg (fun z => hne ((pcn_tab k (by omega)).2.2.mp z)))]
    rw [if_pos ((pcn_tab 0 (by decide)).2.2.mpr rfl), a0, Nat.sub_zero]
    grind
  have gD : G D = a (2 ^ D - 1) := by
    show sm _ _ = _
    rw [sm_one (i := 2 ^ D - 1) (2 ^ D) (by omega) (fun k hk hne => if_neg (fun z => ?_))]
    · have ft := (full_tab D (by omega) (2 ^ D - 1) (by omega) (by omega)).1
      rw [Nat.sub_self] at ft
      have z := (pcn_tab 0 (by decide)).2.2.mpr rfl
      rw [if_pos (by omega), Nat.sub_self, b0]
      grind
    · have ft := (full_tab D (by omega) k (by omega) hk).1
      have := (pcn_tab (2 ^ D - 1 - k) (by omega)).2.2.mp (by omega)
      omega
  rw [← gD, ← g0]
  exact (all D (Nat.le_refl _)).symm
/-! names: what both compute -/
theorem pop_k {k : Nat} (hk : k < 128) : spop (Int32.ofNat k) = Int32.ofNat (pcn k) := (ones_tab k (by omega)).trans (pcn_tab k hk).1
theorem sbit_rr {k j : Nat} (hj : j < 7) : Int32.ofNat k &&& (sbit (Int32.ofNat j) ^^^ -1) = rr (Int32.ofNat k) j := by unfold rr; rw [sbit_eq (by omega)]
theorem sub1 {n : Nat} (h : 0 < n) (hn : n < 1000) : Int32.ofNat n - 1 = Int32.ofNat (n - 1) := by
  have : Int32.ofNat (n - 1) + 1 = Int32.ofNat n := by rw [nat_succ]; congr 1; omega
  rw [← this]; grind
theorem scwi_sm {m : zmem} {k : Nat} (h0 : 0 < k) (hk : k < 128) {D : Nat} (hD : D ≤ 7) : sfold (scwi m k) D 0 0 = sm (fun j => if (mem k j && bt (m 16 (pcn k - 1)) j) = true then m 56 (k - 2 ^ j) else 0) D := by
  have pt := pcn_tab k hk
  have hp : 0 < pcn k := by
    apply Nat.pos_of_ne_zero
    intro z
    have := pt.2.2.mp z
    omega
  show _ = sfold _ D 0 0
  refine sfold_congr D 0 _ (fun j st _ hj => ?_)
  show scwi m k j st = st + (if (mem k j && bt (m 16 (pcn k - 1)) j) = true then m 56 (k - 2 ^ j) else 0)
  unfold scwi scwn
  rw [pop_k hk, sub1 hp (by omega), show (7 + 9) = 16 from rfl, aat_k (by omega) (by decide), shas_bt _ (by omega), bt_and]
  by_cases e : (bt (Int32.ofNat k) j && bt (m 16 (pcn k - 1)) j) = true
  · have e1 : mem k j = true := (Bool.and_eq_true _ _ ▸ e : _ ∧ _).1
    obtain ⟨x1, x2, -, -⟩ := (mem_tab k hk j (by omega)).1 e1
    rw [if_pos e, if_neg (by decide), if_pos (show (mem k j && bt (m 16 (pcn k - 1)) j) = true from e), sbit_rr (by omega), x2, aat_k (Nat.lt_of_le_of_lt (Nat.sub_le _ _) hk) (by decide)]
  · rw [if_neg e, if_pos rfl, if_neg (show ¬ (mem k j && bt (m 16 (pcn k - 1)) j) = true from e), Int32.add_zero]
theorem scw_key {s : zmem} {D : Nat} (hD : D ≤ 7) : ∀ n k m, 1 ≤ k → k + n ≤ 2 ^ D → (∀ q, q ≠ 56 → m q = s q) → (∀ q, q ≠ 56 → sfold (scwo D) n k m q = s q) ∧ (∀ i, (i < k ∨ k + n ≤ i) → sfold (scwo D) n k m 56 i = m 56 i) ∧ ∀ i, k ≤ i → i < k + n → sfold (scwo D) n k m 56 i = sm (fun j => if (mem i j && bt (s 16 (pcn i - 1)) j) = true then sfold (scwo D) n k m 56 (i - 2 ^ j) else 0) D := by
  have h2 := two_D hD
  intro n
  induction n with
  | zero => intro k m _ _ h; exact ⟨h, fun _ _ => rfl, fun i h1 h3 => by omega⟩
  | succ n ih =>
    intro k m h1 hk h
    have es : scwo D k m = mset m 56 k (sm (fun j => if (mem k j && bt (s 16 (pcn k - 1)) j) = true then m 56 (k - 2 ^ j) else 0) D) := by
      unfold scwo
      rw [aput_k (by omega) (by decide), scwi_sm (by omega) (by omega) hD, h 16 (by decide)]
    obtain ⟨g1, g2, g3⟩ := ih (k + 1) (scwo D k m) (by omega) (by omega) (fun q hq => by rw [es, mset_cell _ hq]; exact h q hq)
    refine ⟨g1, fun i hi => ?_, fun i hi1 hi2 => ?_⟩
    · show sfold (scwo D) n (k + 1) (scwo D k m) 56 i = _
      rw [g2 i (by omega), es, mset_ne _ (by omega)]
    · by_cases e : i = k
      · subst e
        show sfold (scwo D) n (i + 1) (scwo D i m) 56 i = sm (fun j => if (mem i j && bt (s 16 (pcn i - 1)) j) = true then sfold (scwo D) n (i + 1) (scwo D i m) 56 (i - 2 ^ j) else 0) D
        rw [g2 i (by omega), es, mset_eq]
        refine sm_congr D (fun j hj => ?_)
        by_cases z : (mem i j && bt (s 16 (pcn i - 1)) j) = true
        · have hp := Nat.two_pow_pos j
          rw [if_pos z, if_pos z, ← es, g2 _ (by omega), es, mset_ne _ (by omega)]
        · rw [if_neg z, if_neg z]
      · exact g3 i (by omega) (by omega)
/-- the reference's pair at one set -/
def rst (w M Lb : Nat → Int32) (b c : Nat → Int32) (D i j : Nat) (p : Int32 × Int32) : Int32 × Int32 := if (mem i j && bt (M (D - pcn i)) j) = true then (p.1 + b (i - 2 ^ j), if p.2 ≤ c (i - 2 ^ j) + (if Lb (D - pcn i) = Int32.ofNat j then 0 else 1) then p.2 else c (i - 2 ^ j) + (if Lb (D - pcn i) = Int32.ofNat j then 0 else 1)) else p
theorem rahd_k {D k : Nat} (hD : D ≤ 7) (hk : k < 2 ^ D) : rahd D (Int32.ofNat k) = Int32.ofNat (D - pcn k) := by
  have h2 := two_D hD
  have f := full_t1 D (by omega) k hk
  unfold rahd
  rw [(pcn_tab k (by omega)).1]
  have : Int32.ofNat (D - pcn k) + Int32.ofNat (pcn k) = Int32.ofNat D := by rw [← Int32.ofNat_add]; congr 1; omega
  rw [← this]; grind
theorem rfn_key {t : zmem} {D k : Nat} (hD : D ≤ 7) (h0 : 0 < k) (hk : k < 2 ^ D) {m : zmem} (hm : ∀ q, q ≠ 71 → q ≠ 72 → m q = t q) : ∀ n j x, j + n ≤ D → (∀ q i, ¬ ((q = 71 ∨ q = 72) ∧ i = k) → x q i = m q i) → (∀ q i, ¬ ((q = 71 ∨ q = 72) ∧ i = k) → sfold (rfn D k) n j x q i = m q i) ∧ (sfold (rfn D k) n j x 71 k, sfold (rfn D k) n j x 72 k) = sfold (rst (fun _ => 0) (fun i => t 58 (64 + i)) (fun i => t 58 (56 + i)) (m 71) (m 72) D k) n j (x 71 k, x 72 k) := by
  have h2 := two_D hD
  intro n
  induction n with
  | zero => intro j x _ h; exact ⟨h, rfl⟩
  | succ n ih =>
    intro j x hj h
    have hx58 : x 58 = t 58 := by funext i; rw [h 58 i (by omega)]; exact congrFun (hm 58 (by decide) (by decide)) i
    have step : (∀ q i, ¬ ((q = 71 ∨ q = 72) ∧ i = k) → rfn D k j x q i = m q i) ∧ (rfn D k j x 71 k, rfn D k j x 72 k) = rst (fun _ => 0) (fun i => t 58 (64 + i)) (fun i => t 58 (56 + i)) (m 71) (m 72) D k j (x 71 k, x 72 k) := by
      unfold rfn rst
      rw [if_neg (show ¬ Int32.ofNat k ≤ 0 from fun q => by have := (n_le (b := 0) (by omega) (by decide)).mp q; omega), rahd_k hD hk, rhas_bt _ (show j < 32 by omega), rhas_bt _ (show j < 32 by omega), wt_k (by omega), hx58]
      by_cases m1 : mem k j = true
      · obtain ⟨x1, x2, -, -⟩ := (mem_tab k (by omega) j (by omega)).1 m1
        have hp := Nat.two_pow_pos j
        rw [if_neg (show ¬ (if bt (Int32.ofNat k) j = true then (1 : Int32) else 0) = 0 by rw [if_pos (show bt (Int32.ofNat k) j = true from m1)]; decide)]
        by_cases m2 : bt (t 58 (64 + (D - pcn k))) j = true
        · rw [if_neg (show ¬ (if bt (t 58 (0 + 64 + (D - pcn k))) j = true then (1 : Int32) else 0) = 0 by rw [if_pos (show bt (t 58 (0 + 64 + (D - pcn k))) j = true by rw [Nat.zero_add]; exact m2)]; decide), if_pos (by rw [m1, m2]; rfl)]
          have e71 : x 71 (k - 2 ^ j) = m 71 (k - 2 ^ j) := h 71 _ (by omega)
          have e72 : x 72 (k - 2 ^ j) = m 72 (k - 2 ^ j) := h 72 _ (by omega)
          have f2 : rfn2 k j x = mset x 71 k (x 71 k + m 71 (k - 2 ^ j)) := by unfold rfn2; rw [x2, natc (by omega), e71]
          have fv : rfv x D k j = m 72 (k - 2 ^ j) + (if t 58 (56 + (D - pcn k)) = Int32.ofNat j then 0 else 1) := by
            unfold rfv
            rw [x2, natc (by omega), e72, rahd_k hD hk, wt_k (by omega), hx58, Nat.zero_add]
          have f1 : rfn1 D k j x = mset (mset x 71 k (x 71 k + m 71 (k - 2 ^ j))) 72 k (if x 72 k ≤ m 72 (k - 2 ^ j) + (if t 58 (56 + (D - pcn k)) = Int32.ofNat j then 0 else 1) then x 72 k else m 72 (k - 2 ^ j) + (if t 58 (56 + (D - pcn k)) = Int32.ofNat j then 0 else 1)) := by
            have v2 : rfv (rfn2 k j x) D k j = m 72 (k - 2 ^ j) + (if t 58 (56 + (D - pcn k)) = Int32.ofNat j then 0 else 1) := by
              rw [f2]
              unfold rfv
              rw [x2, natc (by omega), mset_cell _ (by decide), e72, rahd_k hD hk, wt_k (by omega), mset_cell _ (by decide), hx58, Nat.zero_add]
            unfold rfn1
            first
              | rw [fv, f2, mset_cell _ (show 72 ≠ 71 by decide)]
              | rw [v2, f2, mset_cell _ (show 72 ≠ 71 by decide)]
          rw [f1]
          refine ⟨fun q i hq => ?_, ?_⟩
          · rw [mset_ne _ (by omega), mset_ne _ (by omega)]; exact h q i hq
          · rw [mset_cell _ (show 71 ≠ 72 by decide), mset_eq, mset_eq]
        · rw [if_pos (show (if bt (t 58 (0 + 64 + (D - pcn k))) j = true then (1 : Int32) else 0) = 0 by rw [if_neg (show ¬ bt (t 58 (0 + 64 + (D - pcn k))) j = true by rw [Nat.zero_add]; exact m2)]), if_neg (by simp [m2])]
          exact ⟨h, rfl⟩
      · rw [if_pos (show (if bt (Int32.ofNat k) j = true then (1 : Int32) else 0) = 0 by rw [if_neg (show ¬ bt (Int32.ofNat k) j = true from m1)]), if_neg (by simp [m1])]
        exact ⟨h, rfl⟩
    obtain ⟨g1, g2⟩ := ih (j + 1) (rfn D k j x) (by omega) step.1
    refine ⟨g1, ?_⟩
    show (sfold (rfn D k) n (j + 1) (rfn D k j x) 71 k, sfold (rfn D k) n (j + 1) (rfn D k j x) 72 k) = _
    rw [g2, step.2]
    rfl
theorem rst_congr {M Lb b c b' c' : Nat → Int32} {D i : Nat} (h : ∀ x, x < i → b x = b' x ∧ c x = c' x) (hi : 0 < i) (hi2 : i < 128) (hD : D ≤ 7) (p : Int32 × Int32) : sfold (rst (fun _ => 0) M Lb b c D i) D 0 p = sfold (rst (fun _ => 0) M Lb b' c' D i) D 0 p := by
  refine sfold_congr D 0 p (fun j st _ hj => ?_)
  unfold rst
  by_cases z : (mem i j && bt (M (D - pcn i)) j) = true
  · have hp := Nat.two_pow_pos j
    have := h (i - 2 ^ j) (by omega)
    rw [if_pos z, if_pos z, this.1, this.2]
  · rw [if_neg z, if_neg z]
theorem rfo_key {t : zmem} {D : Nat} (hD : D ≤ 7) : ∀ n k m, k + n ≤ 2 ^ D → (∀ q, q ≠ 71 → q ≠ 72 → m q = t q) → (∀ q, q ≠ 71 → q ≠ 72 → sfold (rfo D) n k m q = t q) ∧ (∀ i, (i < k ∨ k + n ≤ i) → sfold (rfo D) n k m 71 i = m 71 i ∧ sfold (rfo D) n k m 72 i = m 72 i) ∧ ∀ i, k ≤ i → i < k + n → (i = 0 → sfold (rfo D) n k m 71 i = 1 ∧ sfold (rfo D) n k m 72 i = 0) ∧ (0 < i → (sfold (rfo D) n k m 71 i, sfold (rfo D) n k m 72 i) = sfold (rst (fun _ => 0) (fun i => t 58 (64 + i)) (fun i => t 58 (56 + i)) (sfold (rfo D) n k m 71) (sfold (rfo D) n k m 72) D i) D 0 (0, 999)) := by
  have h2 := two_D hD
  intro n
  induction n with
  | zero => intro k m _ h; exact ⟨h, fun _ _ => ⟨rfl, rfl⟩, fun i h1 h3 => by omega⟩
  | succ n ih =>
    intro k m hk h
    have e0 : ∀ q i, ¬ ((q = 71 ∨ q = 72) ∧ i = k) → rfo0 k m q i = m q i := fun q i hq => by
      unfold rfo0
      rw [mset_ne _ (by omega), mset_ne _ (by omega)]
    have o71 : rfo0 k m 71 k = if Int32.ofNat k = 0 then 1 else 0 := by unfold rfo0; rw [mset_cell _ (by decide), mset_eq]
    have o72 : rfo0 k m 72 k = if Int32.ofNat k = 0 then 0 else 999 := by unfold rfo0; rw [mset_eq]
    have st : (∀ q i, ¬ ((q = 71 ∨ q = 72) ∧ i = k) → rfo D k m q i = m q i) ∧ (k = 0 → rfo D k m 71 k = 1 ∧ rfo D k m 72 k = 0) ∧ (0 < k → (rfo D k m 71 k, rfo D k m 72 k) = sfold (rst (fun _ => 0) (fun i => t 58 (64 + i)) (fun i => t 58 (56 + i)) (m 71) (m 72) D k) D 0 (0, 999)) := by
      by_cases k0 : k = 0
      · subst k0
        have id0 : rfo D 0 m = rfo0 0 m := by
          unfold rfo
          exact sfold_id (fun j x => by unfold rfn; rw [if_pos (show Int32.ofNat 0 ≤ 0 by decide)]) D 0 _
        rw [id0]
        exact ⟨e0, fun _ => ⟨by rw [o71]; rfl, by rw [o72]; rfl⟩, fun z => absurd z (by omega)⟩
      · have hk0 : ¬ Int32.ofNat k = 0 := fun z => k0 ((n_eq (b := 0) (by omega) (by decide)).mp z)
        rw [if_neg hk0] at o71 o72
        obtain ⟨g1, g2⟩ := rfn_key (t := t) hD (by omega) (show k < 2 ^ D by omega) h D 0 (rfo0 k m) (by omega) e0
        rw [o71, o72] at g2
        exact ⟨g1, fun z => absurd z k0, fun _ => g2⟩
    obtain ⟨s1, s2, s3⟩ := st
    obtain ⟨g1, g2, g3⟩ := ih (k + 1) (rfo D k m) (by omega) (fun q h71 h72 => by funext i; rw [s1 q i (by omega)]; exact congrFun (h q h71 h72) i)
    refine ⟨g1, fun i hi => ?_, fun i hi1 hi2 => ?_⟩
    · have g := g2 i (by omega)
      exact ⟨g.1.trans (s1 71 i (by omega)), g.2.trans (s1 72 i (by omega))⟩
    · by_cases e : i = k
      · subst e
        have g := g2 i (by omega)
        refine ⟨fun z => ⟨g.1.trans (s2 z).1, g.2.trans (s2 z).2⟩, fun z => ?_⟩
        have q := s3 z
        show (sfold (rfo D) n (i + 1) (rfo D i m) 71 i, sfold (rfo D) n (i + 1) (rfo D i m) 72 i) = sfold (rst (fun _ => 0) (fun i => t 58 (64 + i)) (fun i => t 58 (56 + i)) (sfold (rfo D) n (i + 1) (rfo D i m) 71) (sfold (rfo D) n (i + 1) (rfo D i m) 72) D i) D 0 (0, 999)
        rw [g.1, g.2, q]
        refine rst_congr (fun x hx => ?_) z (by omega) hD _
        have gx := g2 x (by omega)
        exact ⟨(gx.1.trans (s1 71 x (by omega))).symm, (gx.2.trans (s1 72 x (by omega))).symm⟩
      · exact g3 i (by omega) (by omega)
theorem rst_1 {M Lb b c : Nat → Int32} {D i : Nat} : ∀ n x y, (sfold (rst (fun _ => 0) M Lb b c D i) n 0 (x, y)).1 = x + sm (fun j => if (mem i j && bt (M (D - pcn i)) j) = true then b (i - 2 ^ j) else 0) n := by
  intro n
  induction n with
  | zero => intro x y; exact (Int32.add_zero x).symm
  | succ n ih =>
    intro x y
    rw [sfold_last, Nat.zero_add, sm_s, ← Int32.add_assoc, ← ih x y]
    unfold rst
    by_cases z : (mem i n && bt (M (D - pcn i)) n) = true
    · rw [if_pos z, if_pos z]
    · rw [if_neg z, if_neg z, Int32.add_zero]
section NM
variable {s t : zmem} {D Y C L W : Nat}
theorem names_at (t : zmem) {D : Nat} (hD : D ≤ 7) : (∀ q, q ≠ 71 → q ≠ 72 → rnames t D q = t q) ∧ rnames t D 71 0 = 1 ∧ rnames t D 72 0 = 0 ∧ ∀ i, 0 < i → i < 2 ^ D → (rnames t D 71 i, rnames t D 72 i) = sfold (rst (fun _ => 0) (fun i => t 58 (64 + i)) (fun i => t 58 (56 + i)) (rnames t D 71) (rnames t D 72) D i) D 0 (0, 999) := by
  have hp := Nat.two_pow_pos D
  obtain ⟨g1, g2, g3⟩ := rfo_key (t := t) hD (2 ^ D) 0 t (by omega) (fun _ _ _ => rfl)
  have z := (g3 0 (Nat.zero_le _) (by omega)).1 rfl
  exact ⟨g1, z.1, z.2, fun i h1 h2 => (g3 i (by omega) (by omega)).2 h1⟩
theorem S_fits (h : RP s t D Y C L W) : SIM s t D Y (aat 128 (scw s D (2 ^ D - 1) 56) (Int32.ofNat (2 ^ D - 1)), scw s D (2 ^ D - 1)) (rk_fits t D) := by
  have hD := h.hD
  have hY := h.hY
  have h2 := two_D hD
  have hp := Nat.two_pow_pos D
  have c0 : ∀ q, q ≠ 56 → aput s 56 128 0 1 q = s q := fun q hq => aput_ne hq
  obtain ⟨k1, k2, k3⟩ := scw_key (s := s) hD (2 ^ D - 1) 1 (aput s 56 128 0 1) (Nat.le_refl _) (by omega) c0
  obtain ⟨r1, r2, r3, r4⟩ := names_at t hD
  unfold rk_fits
  have e0 : aput s 56 128 0 1 = mset s 56 0 1 := aput_k (k := 0) (by decide) (by decide)
  have W := ways_eq hD (a := fun k => scw s D (2 ^ D - 1) 56 k) (b := fun k => rnames t D 71 k) (M := fun i => s 16 i) (by
    show sfold (scwo D) (2 ^ D - 1) 1 (aput s 56 128 0 1) 56 0 = 1
    rw [k2 0 (by omega), e0, mset_eq]) r2 (fun k q1 q2 => k3 k (by omega) (by omega)) (fun k q1 q2 => by
    have g := congrArg Prod.fst (r4 k q1 q2)
    rw [rst_1, Int32.zero_add] at g
    refine g.trans (sm_congr D (fun j hj => ?_))
    have pt := pcn_tab k (by omega)
    have hk1 : 0 < pcn k := Nat.pos_of_ne_zero (fun z => by have := pt.2.2.mp z; omega)
    have em : t 58 (64 + (D - pcn k)) = s 16 (D - pcn k) := by
      have := (h.p.1 9 (Or.inr (Or.inr (Or.inr (Or.inr (Or.inr (Or.inr (Or.inr rfl))))))) (D - pcn k) (show D - pcn k < D by omega)).1
      rw [show (0 + colO 9 + (D - pcn k)) = 64 + (D - pcn k) by simp [colO]] at this
      exact this.symm
    rw [em])
  refine ⟨?_, ⟨fun q hq => k1 q (by rintro rfl; cases hq), fun j _ => congrFun (k1 7 (by decide)) j⟩, ⟨fun q hq => r1 q (by rintro rfl; cases hq) (by rintro rfl; cases hq), fun j _ => congrFun (r1 58 (by decide) (by decide)) j, fun j _ => congrFun (r1 57 (by decide) (by decide)) j⟩, h.p.congr (fun c hc => k1 _ (by omega)) (fun j _ => congrFun (r1 58 (by decide) (by decide)) _) (r1 63 (by decide) (by decide)) hD hY⟩
  show aat 128 (scw s D (2 ^ D - 1) 56) (Int32.ofNat (2 ^ D - 1)) = rnames t D 71 (2 ^ D - 1)
  rw [aat_k (by omega) (by decide)]
  exact W
end NM
/-! names mixed: the fewest changes -/
/-- one step down of the class -/
def ssg (V : zmem) (D k : Nat) : Int32 := sfold (fun j s => smin s (schg V (Int32.ofNat k) (Int32.ofNat j))) D 0 99
theorem schg_congr {m m' : zmem} {k j : Nat} (hk : k < 128) (hj : j < 7) (h : ∀ q, q ≠ 56 → m' q = m q) (h56 : ∀ i, k < i → i < 128 → m' 56 i = m 56 i) (hlt : mem k j = false → k + 2 ^ j < 128) : schg m' (Int32.ofNat k) (Int32.ofNat j) = schg m (Int32.ofNat k) (Int32.ofNat j) := by
  have hp := Nat.two_pow_pos j
  unfold schg schg1
  rw [shas_bt _ (by omega)]
  by_cases e : mem k j = true
  · rw [if_pos (show ¬ (if bt (Int32.ofNat k) j = true then (1 : Int32) else 0) = 0 by rw [if_pos (show bt (Int32.ofNat k) j = true from e)]; decide), if_pos (show ¬ (if bt (Int32.ofNat k) j = true then (1 : Int32) else 0) = 0 by rw [if_pos (show bt (Int32.ofNat k) j = true from e)]; decide)]
  · have e' : mem k j = false := by simpa using e
    obtain ⟨x1, -, x3⟩ := (mem_tab k hk j hj).2 e'
    rw [h (7 + 9) (by decide), h (7 + 8) (by decide), x3, aat_k (hlt e') (by decide), aat_k (hlt e') (by decide), h56 _ (by omega) (hlt e')]
theorem swg_key {s : zmem} {D : Nat} (hD : D ≤ 7) : ∀ n m, n ≤ 2 ^ D - 1 → (∀ q, q ≠ 56 → m q = s q) → (∀ q, q ≠ 56 → sdown (swgo D) n m q = s q) ∧ (∀ i, n ≤ i → sdown (swgo D) n m 56 i = m 56 i) ∧ ∀ i, i < n → sdown (swgo D) n m 56 i = ssg (sdown (swgo D) n m) D i := by
  have h2 := two_D hD
  intro n
  induction n with
  | zero => intro m _ h; exact ⟨h, fun _ _ => rfl, fun i hi => by omega⟩
  | succ n ih =>
    intro m hn h
    have es : swgo D n m = mset m 56 n (ssg m D n) := by
      unfold swgo
      rw [aput_k (by omega) (by decide)]
      rfl
    obtain ⟨g1, g2, g3⟩ := ih (swgo D n m) (by omega) (fun q hq => by rw [es, mset_cell _ hq]; exact h q hq)
    refine ⟨g1, fun i hi => ?_, fun i hi => ?_⟩
    · show sdown (swgo D) n (swgo D n m) 56 i = _
      rw [g2 i (by omega), es, mset_ne _ (by omega)]
    · by_cases e : i = n
      · subst e
        show sdown (swgo D) i (swgo D i m) 56 i = ssg (sdown (swgo D) i (swgo D i m)) D i
        have ev : sdown (swgo D) i (swgo D i m) 56 i = ssg m D i := by rw [g2 i (Nat.le_refl _), es, mset_eq]
        rw [ev]
        unfold ssg
        refine sfold_congr D 0 _ (fun j st _ hj => ?_)
        rw [schg_congr (m := m) (m' := sdown (swgo D) i (swgo D i m)) (by omega) (by omega) (fun q hq => (g1 q hq).trans (h q hq).symm) (fun x hx1 hx2 => by rw [g2 x (by omega), es, mset_ne _ (by omega)]) (fun z => by have := full_t3 D (by omega) i (by omega) j (by omega) z; omega)]
      · exact g3 i (by omega)
def cst (Lb : Nat → Int32) (q j : Nat) : Int32 := if Lb q = Int32.ofNat j then 0 else 1
/-- one set, both sides: it can't be named, or the fewest changes are the same -/
def NR (V56 U71 U72 : Nat → Int32) (A i : Nat) : Prop := (V56 (A - i) = 99 ∧ U72 i = 999 ∧ U71 i = 0) ∨ ∃ v c, v ≤ pcn i ∧ 1 ≤ c ∧ c ≤ 7 ^ pcn i ∧ V56 (A - i) = Int32.ofNat v ∧ U72 i = Int32.ofNat v ∧ U71 i = Int32.ofNat c
theorem min_tab : ∀ v, v < 9 → ∀ w, w < 9 → (smin (Int32.ofNat v) (Int32.ofNat w) = Int32.ofNat (if w < v then w else v)) ∧ ((if Int32.ofNat v ≤ Int32.ofNat w then Int32.ofNat v else Int32.ofNat w) = Int32.ofNat (if w < v then w else v)) := by decide +kernel
theorem min_t2 : ∀ w, w < 9 → smin 99 (Int32.ofNat w) = Int32.ofNat w ∧ (if (999 : Int32) ≤ Int32.ofNat w then (999 : Int32) else Int32.ofNat w) = Int32.ofNat w ∧ smin (Int32.ofNat w) 99 = Int32.ofNat w ∧ smin (Int32.ofNat w) (1 + 99) = Int32.ofNat w ∧ smin (Int32.ofNat w) (0 + 99) = Int32.ofNat w ∧ (if Int32.ofNat w ≤ 999 + 0 then Int32.ofNat w else 999 + 0) = Int32.ofNat w ∧ (if Int32.ofNat w ≤ 999 + 1 then Int32.ofNat w else 999 + 1) = Int32.ofNat w := by decide +kernel
section MX
variable {V s t : zmem} {M Lb U71 U72 : Nat → Int32} {D A : Nat}
/-- what the class asks of the name j for the next dead after the set A - i -/
theorem schg_at (hD : D ≤ 7) (hA : A = 2 ^ D - 1) (hm : ∀ q, q < D → V 16 q = M q) (hl : ∀ q, q < D → V 15 q = Lb q) {i j : Nat} (h0 : 0 < i) (hi : i ≤ A) (hj : j < D) : schg V (Int32.ofNat (A - i)) (Int32.ofNat j) = if (mem i j && bt (M (D - pcn i)) j) = true then cst Lb (D - pcn i) j + V 56 (A - (i - 2 ^ j)) else 99 := by
  have h2 := two_D hD
  have hp := Nat.two_pow_pos D
  have pt := pcn_tab i (by omega)
  have hk1 : 0 < pcn i := Nat.pos_of_ne_zero (fun z => by have := pt.2.2.mp z; omega)
  have f1 := full_t1 D (by omega) i (by omega)
  have f2 := full_t2 D (by omega) i (by omega) j hj
  rw [← hA] at f1 f2
  have ep : pcn (A - i) = D - pcn i := by omega
  unfold schg schg1
  rw [shas_bt _ (by omega), show bt (Int32.ofNat (A - i)) j = !mem i j from f2, pop_k (by omega), ep, show (7 + 9) = 16 from rfl, show (7 + 8) = 15 from rfl, aat_k (show D - pcn i < 7 by omega) (by decide), aat_k (show D - pcn i < 7 by omega) (by decide), hm _ (by omega), hl _ (by omega), shas_bt _ (by omega)]
  by_cases m1 : mem i j = true
  · rw [m1, if_neg (by decide)]
    by_cases m2 : bt (M (D - pcn i)) j = true
    · obtain ⟨x1, -, -, -⟩ := (mem_tab i (by omega) j (by omega)).1 m1
      have mk : mem (A - i) j = false := by rw [f2, m1]; rfl
      obtain ⟨-, -, x3⟩ := (mem_tab (A - i) (by omega) j (by omega)).2 mk
      have hpj := Nat.two_pow_pos j
      have ei : A - i + 2 ^ j = A - (i - 2 ^ j) := by omega
      rw [m2, if_pos rfl, if_pos (by decide), x3, ei, aat_k (by omega) (by decide), if_pos (show (true && true) = true from rfl)]
      unfold cst
      by_cases z : Lb (D - pcn i) = Int32.ofNat j
      · rw [if_neg (fun q => q z), if_pos z]
      · rw [if_pos z, if_neg z]
    · have m2' : bt (M (D - pcn i)) j = false := by simpa using m2
      rw [m2', if_neg (by decide), if_neg (by decide)]
  · have m1' : mem i j = false := by simpa using m1
    rw [m1', if_pos (by decide), if_neg (by simp)]
theorem cst01 (q j : Nat) : cst Lb q j = 0 ∨ cst Lb q j = 1 := by unfold cst; by_cases z : Lb q = Int32.ofNat j <;> simp [z]
theorem nr_step (hD : D ≤ 7) (hA : A = 2 ^ D - 1) (hm : ∀ q, q < D → V 16 q = M q) (hl : ∀ q, q < D → V 15 q = Lb q) {i : Nat} (h0 : 0 < i) (hi : i ≤ A) (sub : ∀ x, x < i → NR (V 56) U71 U72 A x) : ∀ n, n ≤ D → ∃ x y z, sfold (fun j s => smin s (schg V (Int32.ofNat (A - i)) (Int32.ofNat j))) n 0 99 = x ∧ sfold (rst (fun _ => 0) M Lb U71 U72 D i) n 0 (0, 999) = (z, y) ∧ ((x = 99 ∧ y = 999 ∧ z = 0) ∨ ∃ v c, v ≤ pcn i ∧ 1 ≤ c ∧ c ≤ n * 7 ^ (pcn i - 1) ∧ x = Int32.ofNat v ∧ y = Int32.ofNat v ∧ z = Int32.ofNat c ∧ ∃ j, j < n ∧ (mem i j && bt (M (D - pcn i)) j) = true ∧ ¬ U71 (i - 2 ^ j) = 0 ∧ U72 (i - 2 ^ j) + cst Lb (D - pcn i) j = Int32.ofNat v) := by
  have h2 := two_D hD
  have hp := Nat.two_pow_pos D
  have pt := pcn_tab i (by omega)
  have hk1 : 0 < pcn i := Nat.pos_of_ne_zero (fun z => by have := pt.2.2.mp z; omega)
  have pw : 7 ^ (pcn i - 1) ≤ 7 ^ 6 := Nat.pow_le_pow_right (by decide) (by omega)
  have p6 : 7 ^ 6 = 117649 := by decide
  intro n
  induction n with
  | zero => intro _; exact ⟨99, 999, 0, rfl, rfl, Or.inl ⟨rfl, rfl, rfl⟩⟩
  | succ n ih =>
    intro hn
    obtain ⟨x, y, z, e1, e2, hx⟩ := ih (by omega)
    have bnd : ∀ c, c ≤ n * 7 ^ (pcn i - 1) → c ≤ (n + 1) * 7 ^ (pcn i - 1) := fun c hc => Nat.le_trans hc (Nat.mul_le_mul_right _ (by omega))
    rw [sfold_last, sfold_last, Nat.zero_add, e1, e2, schg_at hD hA hm hl h0 hi (show n < D by omega)]
    unfold rst
    by_cases al : (mem i n && bt (M (D - pcn i)) n) = true
    · have m1 : mem i n = true := ((Bool.and_eq_true _ _).mp al).1
      obtain ⟨x1, x2, x3, x4⟩ := (mem_tab i (by omega) n (by omega)).1 m1
      have hpn := Nat.two_pow_pos n
      rw [if_pos al, if_pos al]
      have es : U72 (i - 2 ^ n) + (if Lb (D - pcn i) = Int32.ofNat n then 0 else 1) = U72 (i - 2 ^ n) + cst Lb (D - pcn i) n := rfl
      rw [es]
      rcases sub (i - 2 ^ n) (by omega) with ⟨s1, s2, s3⟩ | ⟨v', c', s1, s2, s3, s4, s5, s6⟩
      · refine ⟨_, _, _, rfl, rfl, ?_⟩
        rw [s1, s2, s3, Int32.add_zero]
        rcases hx with ⟨rfl, rfl, rfl⟩ | ⟨v, c, r1, r2, r3, rfl, rfl, rfl, j, r4, r5⟩
        · left
          rcases cst01 (Lb := Lb) (D - pcn i) n with q | q <;> rw [q] <;> decide
        · right
          have mt := min_t2 v (by omega)
          refine ⟨v, c, r1, r2, bnd c r3, ?_, ?_, rfl, j, by omega, r5⟩
          · rcases cst01 (Lb := Lb) (D - pcn i) n with q | q <;> rw [q]
            · exact mt.2.2.2.2.1
            · exact mt.2.2.2.1
          · rcases cst01 (Lb := Lb) (D - pcn i) n with q | q <;> rw [q]
            · exact mt.2.2.2.2.2.1
            · exact mt.2.2.2.2.2.2
      · obtain ⟨w, hw, ew⟩ : ∃ w, w ≤ pcn i ∧ cst Lb (D - pcn i) n + Int32.ofNat v' = Int32.ofNat w := by
          rcases cst01 (Lb := Lb) (D - pcn i) n with q | q
          · exact ⟨v', by omega, by rw [q, Int32.zero_add]⟩
          · exact ⟨v' + 1, by omega, by rw [q, ← nat_succ]; exact Int32.add_comm _ _⟩
        have ew2 : Int32.ofNat v' + cst Lb (D - pcn i) n = Int32.ofNat w := by rw [Int32.add_comm]; exact ew
        have pe : pcn (i - 2 ^ n) = pcn i - 1 := by omega
        rw [pe] at s3
        have nz : ¬ U71 (i - 2 ^ n) = 0 := by
          rw [s6]
          intro q
          have := (n_eq (b := 0) (by omega) (by decide)).mp q
          omega
        have me : ∃ j, j < n + 1 ∧ (mem i j && bt (M (D - pcn i)) j) = true ∧ ¬ U71 (i - 2 ^ j) = 0 ∧ U72 (i - 2 ^ j) + cst Lb (D - pcn i) j = Int32.ofNat w := ⟨n, by omega, al, nz, by rw [s5]; exact ew2⟩
        refine ⟨_, _, _, rfl, rfl, Or.inr ?_⟩
        rw [s4, s5, s6, ew, ew2]
        rcases hx with ⟨rfl, rfl, rfl⟩ | ⟨v, c, r1, r2, r3, rfl, rfl, rfl, j, r4, r5⟩
        · have mt := min_t2 w (by omega)
          refine ⟨w, c', hw, s2, ?_, mt.1, mt.2.1, Int32.zero_add _, me⟩
          exact Nat.le_trans s3 (by rw [Nat.add_mul, Nat.one_mul]; omega)
        · have mt := min_tab v (by omega) w (by omega)
          have bs : c + c' ≤ (n + 1) * 7 ^ (pcn i - 1) := by rw [Nat.add_mul, Nat.one_mul]; omega
          by_cases q : w < v
          · rw [if_pos q] at mt
            exact ⟨w, c + c', hw, by omega, bs, mt.1, mt.2, (Int32.ofNat_add c c').symm, me⟩
          · rw [if_neg q] at mt
            exact ⟨v, c + c', r1, by omega, bs, mt.1, mt.2, (Int32.ofNat_add c c').symm, j, by omega, r5⟩
    · rw [if_neg al, if_neg al]
      refine ⟨_, _, _, rfl, rfl, ?_⟩
      rcases hx with ⟨rfl, rfl, rfl⟩ | ⟨v, c, r1, r2, r3, rfl, rfl, rfl, j, r4, r5⟩
      · left; decide
      · right
        exact ⟨v, c, r1, r2, bnd c r3, (min_t2 v (by omega)).2.2.1, rfl, rfl, j, by omega, r5⟩
/-- the equations of both -/
def EQ2 (V : zmem) (U71 U72 M Lb : Nat → Int32) (D A : Nat) : Prop := V 56 A = 0 ∧ (∀ i, i < A → V 56 i = ssg V D i) ∧ U71 0 = 1 ∧ U72 0 = 0 ∧ ∀ i, 0 < i → i ≤ A → (U71 i, U72 i) = sfold (rst (fun _ => 0) M Lb U71 U72 D i) D 0 (0, 999)
theorem nr_all (hD : D ≤ 7) (hA : A = 2 ^ D - 1) (hm : ∀ q, q < D → V 16 q = M q) (hl : ∀ q, q < D → V 15 q = Lb q) (E : EQ2 V U71 U72 M Lb D A) : ∀ n i, i < n → i ≤ A → NR (V 56) U71 U72 A i ∧ (0 < i → ¬ U71 i = 0 → ∃ j, j < D ∧ (mem i j && bt (M (D - pcn i)) j) = true ∧ ¬ U71 (i - 2 ^ j) = 0 ∧ U72 (i - 2 ^ j) + cst Lb (D - pcn i) j = U72 i) := by
  obtain ⟨E1, E2, E3, E4, E5⟩ := E
  intro n
  induction n with
  | zero => intro i hi _; omega
  | succ n ih =>
    intro i hi hiA
    by_cases i0 : i = 0
    · subst i0
      refine ⟨Or.inr ⟨0, 1, Nat.zero_le _, by decide, Nat.one_le_pow _ _ (by decide), E1, E4, E3⟩, fun z => absurd z (by omega)⟩
    · have h2 := two_D hD
      have pt := pcn_tab i (by omega)
      have hk1 : 0 < pcn i := Nat.pos_of_ne_zero (fun z => by have := pt.2.2.mp z; omega)
      obtain ⟨x, y, z, e1, e2, hx⟩ := nr_step (U71 := U71) (U72 := U72) hD hA hm hl (i := i) (by omega) hiA (fun x hx => (ih x (by omega) (by omega)).1) D (Nat.le_refl _)
      have ev : V 56 (A - i) = x := by rw [E2 (A - i) (by omega)]; exact e1
      have eu := (E5 i (by omega) hiA).trans e2
      have eu1 : U71 i = z := congrArg Prod.fst eu
      have eu2 : U72 i = y := congrArg Prod.snd eu
      rcases hx with ⟨rfl, rfl, rfl⟩ | ⟨v, c, r1, r2, r3, rfl, rfl, rfl, j, r4, r5, r6, r7⟩
      · exact ⟨Or.inl ⟨ev, eu2, eu1⟩, fun _ q => absurd eu1 q⟩
      · refine ⟨Or.inr ⟨v, c, r1, r2, Nat.le_trans r3 ?_, ev, eu2, eu1⟩, fun _ _ => ⟨j, r4, r5, r6, by rw [eu2]; exact r7⟩⟩
        have : 7 ^ pcn i = 7 * 7 ^ (pcn i - 1) := by
          have : pcn i = (pcn i - 1) + 1 := by omega
          rw [this, Nat.pow_succ, Nat.add_sub_cancel, Nat.mul_comm]
        rw [this]
        exact Nat.mul_le_mul_right _ hD
end MX
