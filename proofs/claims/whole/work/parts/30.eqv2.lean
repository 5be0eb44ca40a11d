/-! names mixed: the calls -/
section MC
variable {V s t : zmem} {M Lb U71 U72 : Nat → Int32} {D A Y C L W : Nat}
theorem names_eq2 (h : RP s t D Y C L W) : (∀ q, q ≠ 56 → swg s D (2 ^ D - 1) q = s q) ∧ EQ2 (swg s D (2 ^ D - 1)) (rnames t D 71) (rnames t D 72) (fun q => t 58 (64 + q)) (fun q => t 58 (56 + q)) D (2 ^ D - 1) ∧ (∀ q, q < D → swg s D (2 ^ D - 1) 16 q = t 58 (64 + q)) ∧ ∀ q, q < D → swg s D (2 ^ D - 1) 15 q = t 58 (56 + q) := by
  have hD := h.hD
  have h2 := two_D hD
  have hp := Nat.two_pow_pos D
  have e0 : aput s 56 128 (Int32.ofNat (2 ^ D - 1)) 0 = mset s 56 (2 ^ D - 1) 0 := aput_k (by omega) (by decide)
  obtain ⟨k1, k2, k3⟩ := swg_key (s := s) hD (2 ^ D - 1) (aput s 56 128 (Int32.ofNat (2 ^ D - 1)) 0) (Nat.le_refl _) (fun q hq => aput_ne hq)
  obtain ⟨r1, r2, r3, r4⟩ := names_at t hD
  refine ⟨k1, ⟨?_, fun i hi => k3 i hi, r2, r3, fun i h1 h2 => r4 i h1 (by omega)⟩, fun q hq => ?_, fun q hq => ?_⟩
  · show sdown (swgo D) (2 ^ D - 1) (aput s 56 128 (Int32.ofNat (2 ^ D - 1)) 0) 56 (2 ^ D - 1) = 0
    rw [k2 _ (Nat.le_refl _), e0, mset_eq]
  · rw [show swg s D (2 ^ D - 1) 16 = s 16 from k1 16 (by decide)]
    have := (h.p.1 9 (Or.inr (Or.inr (Or.inr (Or.inr (Or.inr (Or.inr (Or.inr rfl))))))) q (show q < D from hq)).1
    rw [show (0 + colO 9 + q) = 64 + q by simp [colO]] at this
    exact this
  · rw [show swg s D (2 ^ D - 1) 15 = s 15 from k1 15 (by decide)]
    have := (h.p.1 8 (Or.inr (Or.inr (Or.inr (Or.inr (Or.inr (Or.inr (Or.inl rfl))))))) q (show q < D from hq)).1
    rw [show (0 + colO 8 + q) = 56 + q by simp [colO]] at this
    exact this
/-- the walk of the names, both sides -/
theorem walk_eq {U : zmem} (hD : D ≤ 7) (hA : A = 2 ^ D - 1) (hm : ∀ q, q < D → V 16 q = M q) (hl : ∀ q, q < D → V 15 q = Lb q) (E : EQ2 V (U 71) (U 72) M Lb D A) (u64 : ∀ q, q < D → wt U 0 64 (Int32.ofNat q) = M q) (u56 : ∀ q, q < D → wt U 0 56 (Int32.ofNat q) = Lb q) : ∀ n k i x nm, k + n ≤ D → i ≤ A → pcn i + k = D → ¬ U 71 i = 0 → x = (Int32.ofNat (A - i), nm) → (sfold (fun _ st => (st.1 ||| sbit (snmof V D st.1), snmof V D st.1)) n k x).2 = rmx U D n k (Int32.ofNat i) nm ∧ rmxE U D n k (Int32.ofNat i) := by
  have h2 := two_D hD
  have hp := Nat.two_pow_pos D
  intro n
  induction n with
  | zero => intro k i x nm _ _ _ _ hx; subst hx; exact ⟨rfl, trivial⟩
  | succ n ih =>
    intro k i x nm hk hi hpk hf hx
    subst hx
    have i0 : 0 < i := Nat.pos_of_ne_zero (fun z => by
      have := (pcn_tab 0 (by decide)).2.2.mpr rfl
      rw [z] at hpk
      omega)
    have ne := (nr_all hD hA hm hl E (i + 1) i (by omega) hi)
    obtain ⟨v, c, n1, n2, n3, n4, n5, n6⟩ : ∃ v c, v ≤ pcn i ∧ 1 ≤ c ∧ c ≤ 7 ^ pcn i ∧ V 56 (A - i) = Int32.ofNat v ∧ U 72 i = Int32.ofNat v ∧ U 71 i = Int32.ofNat c := by
      rcases ne.1 with ⟨-, -, z⟩ | z
      · exact absurd z hf
      · exact z
    have ek : D - pcn i = k := by omega
    have pt := pcn_tab i (by omega)
    -- the two tests are one
    have cnd : ∀ j, j < D → snmc V (Int32.ofNat (A - i)) j = rmxc U (Int32.ofNat i) k j := fun j hj => by
      unfold snmc rmxc
      rw [schg_at hD hA hm hl i0 hi hj, aat_k (by omega) (by decide), n4, rhas_bt _ (by omega), rhas_bt _ (by omega), u64 k (by omega), u56 k (by omega), natc (show i < 2147483648 by omega), n5, ek]
      have b99 : ∀ w, w < 9 → ∀ v, v < 8 → ¬ (99 : Int32) = Int32.ofNat v := by decide +kernel
      by_cases m1 : mem i j = true
      · obtain ⟨x1, x2, x3, x4⟩ := (mem_tab i (by omega) j (by omega)).1 m1
        have hpj := Nat.two_pow_pos j
        rw [x2, natc (by omega)]
        have m1' : bt (Int32.ofNat i) j = true := m1
        by_cases m2 : bt (M k) j = true
        · rw [if_pos (show (mem i j && bt (M k) j) = true by rw [m1, m2]; rfl), m1', m2]
          rcases (nr_all hD hA hm hl E (i - 2 ^ j + 1) (i - 2 ^ j) (by omega) (by omega)).1 with ⟨s1, s2, s3⟩ | ⟨v', c', s1, s2, s3, s4, s5, s6⟩
          · rw [s1, s3]
            have : ¬ cst Lb k j + 99 = Int32.ofNat v := by
              have tab : ∀ v, v < 8 → ¬ (0 : Int32) + 99 = Int32.ofNat v ∧ ¬ (1 : Int32) + 99 = Int32.ofNat v := by decide +kernel
              rcases cst01 (Lb := Lb) k j with q | q <;> rw [q]
              · exact (tab v (by omega)).1
              · exact (tab v (by omega)).2
            simp [this]
          · have nz : ¬ U 71 (i - 2 ^ j) = 0 := by
              rw [s6]
              intro q
              have p7 : 7 ^ pcn (i - 2 ^ j) ≤ 7 ^ 7 := Nat.pow_le_pow_right (by decide) (pcn_tab (i - 2 ^ j) (by omega)).2.1
              have e7 : 7 ^ 7 = 823543 := by decide
              have := (n_eq (b := 0) (by omega) (by decide)).mp q
              omega
            rw [s4, s5]
            have cc : (if Lb k = Int32.ofNat j then (0 : Int32) else 1) = cst Lb k j := rfl
            rw [cc, Int32.add_comm (Int32.ofNat v') (cst Lb k j)]
            simp [nz]
        · rw [if_neg (by rw [m1]; simp [m2])]
          have := b99 0 (by decide) v (by omega)
          simp [this, m2]
      · have m1' : ¬ bt (Int32.ofNat i) j = true := m1
        rw [if_neg (by simp [m1])]
        have := b99 0 (by decide) v (by omega)
        simp [this, m1']
    have nme : snmof V D (Int32.ofNat (A - i)) = rmxn U D (Int32.ofNat i) k := by
      unfold snmof rmxn
      exact sfind_congr D 0 (fun j _ hj => cnd j (by omega))
    obtain ⟨j0, hj0, a1, a2, a3⟩ := ne.2 i0 hf
    have hit : ∃ j, j < D ∧ rmxc U (Int32.ofNat i) k j = true := by
      refine ⟨j0, hj0, ?_⟩
      have mm := (Bool.and_eq_true _ _).mp a1
      obtain ⟨x1, x2, -, -⟩ := (mem_tab i (by omega) j0 (by omega)).1 mm.1
      have hpj0 := Nat.two_pow_pos j0
      unfold rmxc
      rw [rhas_bt _ (by omega), rhas_bt _ (by omega), u64 k (by omega), u56 k (by omega), x2, natc (by omega), natc (by omega)]
      have m1' : bt (Int32.ofNat i) j0 = true := mm.1
      have m2 : bt (M k) j0 = true := by rw [← ek]; exact mm.2
      have e3 : U 72 (i - 2 ^ j0) + (if Lb k = Int32.ofNat j0 then (0 : Int32) else 1) = U 72 i := by rw [← ek]; exact a3
      rw [m1', m2, e3]
      simp [a2]
    obtain ⟨j, hj, cj, ej⟩ : ∃ j, j < D ∧ rmxc U (Int32.ofNat i) k j = true ∧ rmxn U D (Int32.ofNat i) k = Int32.ofNat j := by
      have find : ∀ n b, b + n ≤ D → (∃ j, b ≤ j ∧ j < b + n ∧ rmxc U (Int32.ofNat i) k j = true) → ∃ j, j < D ∧ rmxc U (Int32.ofNat i) k j = true ∧ sfind (rmxc U (Int32.ofNat i) k) n b = Int32.ofNat j := by
        intro n
        induction n with
        | zero => intro b _ ⟨j, h1, h2, _⟩; omega
        | succ n ih2 =>
          intro b hb ⟨j, h1, h2, h3⟩
          by_cases z : rmxc U (Int32.ofNat i) k b = true
          · exact ⟨b, by omega, z, if_pos z⟩
          · obtain ⟨j', q1, q2, q3⟩ := ih2 (b + 1) (by omega) ⟨j, by by_cases y : j = b; subst y; exact absurd h3 z; omega, by omega, h3⟩
            exact ⟨j', q1, q2, (if_neg z).trans q3⟩
      obtain ⟨j, hj, cj⟩ := hit
      exact find D 0 (by omega) ⟨j, Nat.zero_le _, by omega, cj⟩
    have cj2 := of_decide_eq_true cj
    rw [rhas_bt _ (show j < 32 by omega)] at cj2
    have mj : mem i j = true := by
      by_cases z : mem i j = true
      · exact z
      · exact absurd (if_neg (show ¬ bt (Int32.ofNat i) j = true from z)) cj2.1
    obtain ⟨x1, x2, x3, x4⟩ := (mem_tab i (by omega) j (by omega)).1 mj
    have hpj := Nat.two_pow_pos j
    have c71 := cj2.2.2.1
    rw [x2, natc (by omega)] at c71
    have es : rmxs (Int32.ofNat i) (Int32.ofNat j) = Int32.ofNat (i - 2 ^ j) := x2
    have mk : mem (A - i) j = false := by
      have f2 := full_t2 D (by omega) i (by omega) j hj
      rw [← hA] at f2
      rw [f2, mj]; rfl
    obtain ⟨-, -, y3⟩ := (mem_tab (A - i) (by omega) j (by omega)).2 mk
    have g := ih (k + 1) (i - 2 ^ j) (Int32.ofNat (A - (i - 2 ^ j)), Int32.ofNat j) (Int32.ofNat j) (by omega) (by omega) (by omega) c71 rfl
    constructor
    · show (sfold _ n (k + 1) (Int32.ofNat (A - i) ||| sbit (snmof V D (Int32.ofNat (A - i))), snmof V D (Int32.ofNat (A - i)))).2 = rmx U D n (k + 1) (rmxs (Int32.ofNat i) (rmxn U D (Int32.ofNat i) k)) (rmxn U D (Int32.ofNat i) k)
      rw [nme, ej, es, y3, show A - i + 2 ^ j = A - (i - 2 ^ j) by omega]
      exact g.1
    · show ¬ rmxn U D (Int32.ofNat i) k = -1 ∧ rmxE U D n (k + 1) (rmxs (Int32.ofNat i) (rmxn U D (Int32.ofNat i) k))
      rw [ej, es]
      refine ⟨?_, g.2⟩
      have tab : ∀ j, j < 7 → ¬ Int32.ofNat j = -1 := by decide +kernel
      exact tab j (by omega)
theorem mixed_E (h : RP s t D Y C L W) {k : Nat} (hk : k < D) (hf : ¬ rnames t D 71 (2 ^ D - 1) = 0) : (snof (swg s D (2 ^ D - 1)) D k).2 = rmx (rnames t D) D (k + 1) 0 (Int32.ofNat (2 ^ D - 1)) 0 ∧ rmxE (rnames t D) D (k + 1) 0 (Int32.ofNat (2 ^ D - 1)) := by
  have hD := h.hD
  have h2 := two_D hD
  have hp := Nat.two_pow_pos D
  obtain ⟨k1, E, hm, hl⟩ := names_eq2 h
  obtain ⟨r1, r2, r3, r4⟩ := names_at t hD
  have u58 : rnames t D 58 = t 58 := r1 58 (by decide) (by decide)
  have pf : pcn (2 ^ D - 1) = D := by
    have f := full_t1 D (by omega) 0 (by omega)
    have := (pcn_tab 0 (by decide)).2.2.mpr rfl
    rw [Nat.sub_zero] at f
    omega
  have rm0 : ∀ n a b, rmx (rnames t D) D (n + 1) 0 (Int32.ofNat (2 ^ D - 1)) a = rmx (rnames t D) D (n + 1) 0 (Int32.ofNat (2 ^ D - 1)) b := fun n a b => rfl
  have w := walk_eq (U := rnames t D) hD rfl hm hl E (fun q hq => by rw [wt_k (by omega), u58, Nat.zero_add]) (fun q hq => by rw [wt_k (by omega), u58, Nat.zero_add]) (k + 1) 0 (2 ^ D - 1) (0, -1) (-1) (by omega) (Nat.le_refl _) (by omega) hf (by rw [Nat.sub_self]; rfl)
  exact ⟨w.1.trans (rm0 k (-1) 0), w.2⟩
theorem S_mixed (h : RP s t D Y C L W) (c : Int32) : SIM s t D Y (sk_mixed s D c) (rk_mixed t D c) := by
  have hD := h.hD
  have hY := h.hY
  have h2 := two_D hD
  have hp := Nat.two_pow_pos D
  obtain ⟨k1, E, hm, hl⟩ := names_eq2 h
  obtain ⟨r1, r2, r3, r4⟩ := names_at t hD
  unfold sk_mixed rk_mixed
  rw [h.sin1]
  by_cases h1 : ¬ c = -1 ∧ sin (s 7 1) c = 0
  · rw [if_pos h1, if_pos h1]; exact SIM.st h rfl
  · rw [if_neg h1, if_neg h1]
    refine ⟨?_, ⟨fun q hq => k1 q (by rintro rfl; cases hq), fun j _ => congrFun (k1 7 (by decide)) j⟩, ⟨fun q hq => r1 q (by rintro rfl; cases hq) (by rintro rfl; cases hq), fun j _ => congrFun (r1 58 (by decide) (by decide)) j, fun j _ => congrFun (r1 57 (by decide) (by decide)) j⟩, h.p.congr (fun c hc => k1 _ (by omega)) (fun j _ => congrFun (r1 58 (by decide) (by decide)) _) (r1 63 (by decide) (by decide)) hD hY⟩
    show (if aat 128 (swg s D (2 ^ D - 1) 56) (Int32.ofNat 0) < 99 then (if ¬ c = -1 then (snof (swg s D (2 ^ D - 1)) D c.toNatClampNeg).2 else aat 128 (swg s D (2 ^ D - 1) 56) (Int32.ofNat 0)) else -1) = (if rnames t D 71 (2 ^ D - 1) = 0 then -1 else if 0 ≤ c then rmx (rnames t D) D (c.toNatClampNeg + 1) 0 (Int32.ofNat (2 ^ D - 1)) 0 else rnames t D 72 (2 ^ D - 1))
    rw [aat_k (k := 0) (by decide) (by decide)]
    have nr := (nr_all hD rfl hm hl E (2 ^ D) (2 ^ D - 1) (by omega) (Nat.le_refl _)).1
    unfold NR at nr
    rw [Nat.sub_self] at nr
    rcases nr with ⟨s1, s2, s3⟩ | ⟨v, c', s1, s2, s3, s4, s5, s6⟩
    · rw [s1, s3, if_neg (by decide), if_pos rfl]
    · have pt := pcn_tab (2 ^ D - 1) (by omega)
      have nz : ¬ rnames t D 71 (2 ^ D - 1) = 0 := by
        rw [s6]
        intro q
        have p7 : 7 ^ pcn (2 ^ D - 1) ≤ 7 ^ 7 := Nat.pow_le_pow_right (by decide) pt.2.1
        have e7 : 7 ^ 7 = 823543 := by decide
        have := (n_eq (b := 0) (by omega) (by decide)).mp q
        omega
      have lt99 : ∀ v, v < 8 → Int32.ofNat v < 99 := by decide +kernel
      rw [s4, if_pos (lt99 v (by omega)), if_neg nz, s5]
      by_cases z : c = -1
      · rw [if_neg (fun q => q z), if_neg (by rw [z]; decide)]
      · rw [if_pos z]
        obtain ⟨k, hk, rfl⟩ := h.dex (fun q => h1 ⟨z, q⟩)
        rw [if_pos (Int32.not_lt.mp (n_lt0 (by omega))), natc (by omega)]
        exact (mixed_E h hk nz).1
end MC
/-! the laying with the fewest quarrels -/
def smN (h : Nat → Nat) : Nat → Nat
  | 0 => 0
  | n + 1 => smN h n + h n
theorem sm_nat {g : Nat → Int32} {h : Nat → Nat} : ∀ n, (∀ i, i < n → g i = Int32.ofNat (h i)) → sm g n = Int32.ofNat (smN h n) := by
  intro n
  induction n with
  | zero => intro _; rfl
  | succ n ih => intro q; rw [sm_s, ih (fun i hi => q i (by omega)), q n (by omega), ← Int32.ofNat_add]; rfl
theorem smN_le {h : Nat → Nat} {B : Nat} : ∀ n, (∀ i, i < n → h i ≤ B) → smN h n ≤ n * B := by
  intro n
  induction n with
  | zero => intro _; exact Nat.zero_le _
  | succ n ih =>
    intro q
    have h1 := ih (fun i hi => q i (by omega))
    have h2 := q n (by omega)
    show smN h n + h n ≤ (n + 1) * B
    rw [Nat.add_mul, Nat.one_mul]
    omega
def sm2 (q : Nat → Nat → Nat) : Nat := smN (fun a => smN (q a) a) 7
theorem inc7 {q q2 : Nat → Nat → Nat} {r : Nat → Nat} {d : Nat} (hd : d < 7) (h1 : ∀ a b, b < a → a < 7 → a ≠ d → b ≠ d → q2 a b = q a b) (h2 : ∀ a b, b < a → a < 7 → (a = d ∨ b = d) → q a b = 0) (h3 : ∀ b, b < d → q2 d b = r b) (h4 : ∀ a, d < a → a < 7 → q2 a d = r a) (h5 : r d = 0) : sm2 q2 = sm2 q + smN r 7 := by
  match d, hd with
  | 0, _ =>
    have e0 := h2 1 0 (by decide) (by decide) (by decide)
    have e1 := h4 1 (by decide) (by decide)
    have e2 := h2 2 0 (by decide) (by decide) (by decide)
    have e3 := h4 2 (by decide) (by decide)
    have e4 := h1 2 1 (by decide) (by decide) (by decide) (by decide)
    have e5 := h2 3 0 (by decide) (by decide) (by decide)
    have e6 := h4 3 (by decide) (by decide)
    have e7 := h1 3 1 (by decide) (by decide) (by decide) (by decide)
    have e8 := h1 3 2 (by decide) (by decide) (by decide) (by decide)
    have e9 := h2 4 0 (by decide) (by decide) (by decide)
    have e10 := h4 4 (by decide) (by decide)
    have e11 := h1 4 1 (by decide) (by decide) (by decide) (by decide)
    have e12 := h1 4 2 (by decide) (by decide) (by decide) (by decide)
    have e13 := h1 4 3 (by decide) (by decide) (by decide) (by decide)
    have e14 := h2 5 0 (by decide) (by decide) (by decide)
    have e15 := h4 5 (by decide) (by decide)
    have e16 := h1 5 1 (by decide) (by decide) (by decide) (by decide)
    have e17 := h1 5 2 (by decide) (by decide) (by decide) (by decide)
    have e18 := h1 5 3 (by decide) (by decide) (by decide) (by decide)
    have e19 := h1 5 4 (by decide) (by decide) (by decide) (by decide)
    have e20 := h2 6 0 (by decide) (by decide) (by decide)
    have e21 := h4 6 (by decide) (by decide)
    have e22 := h1 6 1 (by decide) (by decide) (by decide) (by decide)
    have e23 := h1 6 2 (by decide) (by decide) (by decide) (by decide)
    have e24 := h1 6 3 (by decide) (by decide) (by decide) (by decide)
    have e25 := h1 6 4 (by decide) (by decide) (by decide) (by decide)
    have e26 := h1 6 5 (by decide) (by decide) (by decide) (by decide)
    simp only [sm2, smN, Nat.zero_add, Nat.add_zero]
    omega
  | 1, _ =>
    have e0 := h2 1 0 (by decide) (by decide) (by decide)
    have e1 := h3 0 (by decide)
    have e2 := h1 2 0 (by decide) (by decide) (by decide) (by decide)
    have e3 := h2 2 1 (by decide) (by decide) (by decide)
    have e4 := h4 2 (by decide) (by decide)
    have e5 := h1 3 0 (by decide) (by decide) (by decide) (by decide)
    have e6 := h2 3 1 (by decide) (by decide) (by decide)
    have e7 := h4 3 (by decide) (by decide)
    have e8 := h1 3 2 (by decide) (by decide) (by decide) (by decide)
    have e9 := h1 4 0 (by decide) (by decide) (by decide) (by decide)
    have e10 := h2 4 1 (by decide) (by decide) (by decide)
    have e11 := h4 4 (by decide) (by decide)
    have e12 := h1 4 2 (by decide) (by decide) (by decide) (by decide)
    have e13 := h1 4 3 (by decide) (by decide) (by decide) (by decide)
    have e14 := h1 5 0 (by decide) (by decide) (by decide) (by decide)
    have e15 := h2 5 1 (by decide) (by decide) (by decide)
    have e16 := h4 5 (by decide) (by decide)
    have e17 := h1 5 2 (by decide) (by decide) (by decide) (by decide)
    have e18 := h1 5 3 (by decide) (by decide) (by decide) (by decide)
    have e19 := h1 5 4 (by decide) (by decide) (by decide) (by decide)
    have e20 := h1 6 0 (by decide) (by decide) (by decide) (by decide)
    have e21 := h2 6 1 (by decide) (by decide) (by decide)
    have e22 := h4 6 (by decide) (by decide)
    have e23 := h1 6 2 (by decide) (by decide) (by decide) (by decide)
    have e24 := h1 6 3 (by decide) (by decide) (by decide) (by decide)
    have e25 := h1 6 4 (by decide) (by decide) (by decide) (by decide)
    have e26 := h1 6 5 (by decide) (by decide) (by decide) (by decide)
    simp only [sm2, smN, Nat.zero_add, Nat.add_zero]
    omega
  | 2, _ =>
    have e0 := h1 1 0 (by decide) (by decide) (by decide) (by decide)
    have e1 := h2 2 0 (by decide) (by decide) (by decide)
    have e2 := h3 0 (by decide)
    have e3 := h2 2 1 (by decide) (by decide) (by decide)
    have e4 := h3 1 (by decide)
    have e5 := h1 3 0 (by decide) (by decide) (by decide) (by decide)
    have e6 := h1 3 1 (by decide) (by decide) (by decide) (by decide)
    have e7 := h2 3 2 (by decide) (by decide) (by decide)
    have e8 := h4 3 (by decide) (by decide)
    have e9 := h1 4 0 (by decide) (by decide) (by decide) (by decide)
    have e10 := h1 4 1 (by decide) (by decide) (by decide) (by decide)
    have e11 := h2 4 2 (by decide) (by decide) (by decide)
    have e12 := h4 4 (by decide) (by decide)
    have e13 := h1 4 3 (by decide) (by decide) (by decide) (by decide)
    have e14 := h1 5 0 (by decide) (by decide) (by decide) (by decide)
    have e15 := h1 5 1 (by decide) (by decide) (by decide) (by decide)
    have e16 := h2 5 2 (by decide) (by decide) (by decide)
    have e17 := h4 5 (by decide) (by decide)
    have e18 := h1 5 3 (by decide) (by decide) (by decide) (by decide)
    have e19 := h1 5 4 (by decide) (by decide) (by decide) (by decide)
    have e20 := h1 6 0 (by decide) (by decide) (by decide) (by decide)
    have e21 := h1 6 1 (by decide) (by decide) (by decide) (by decide)
    have e22 := h2 6 2 (by decide) (by decide) (by decide)
    have e23 := h4 6 (by decide) (by decide)
    have e24 := h1 6 3 (by decide) (by decide) (by decide) (by decide)
    have e25 := h1 6 4 (by decide) (by decide) (by decide) (by decide)
    have e26 := h1 6 5 (by decide) (by decide) (by decide) (by decide)
    simp only [sm2, smN, Nat.zero_add, Nat.add_zero]
    omega
  | 3, _ =>
    have e0 := h1 1 0 (by decide) (by decide) (by decide) (by decide)
    have e1 := h1 2 0 (by decide) (by decide) (by decide) (by decide)
    have e2 := h1 2 1 (by decide) (by decide) (by decide) (by decide)
    have e3 := h2 3 0 (by decide) (by decide) (by decide)
    have e4 := h3 0 (by decide)
    have e5 := h2 3 1 (by decide) (by decide) (by decide)
    have e6 := h3 1 (by decide)
    have e7 := h2 3 2 (by decide) (by decide) (by decide)
    have e8 := h3 2 (by decide)
    have e9 := h1 4 0 (by decide) (by decide) (by decide) (by decide)
    have e10 := h1 4 1 (by decide) (by decide) (by decide) (by decide)
    have e11 := h1 4 2 (by decide) (by decide) (by decide) (by decide)
    have e12 := h2 4 3 (by decide) (by decide) (by decide)
    have e13 := h4 4 (by decide) (by decide)
    have e14 := h1 5 0 (by decide) (by decide) (by decide) (by decide)
    have e15 := h1 5 1 (by decide) (by decide) (by decide) (by decide)
    have e16 := h1 5 2 (by decide) (by decide) (by decide) (by decide)
    have e17 := h2 5 3 (by decide) (by decide) (by decide)
    have e18 := h4 5 (by decide) (by decide)
    have e19 := h1 5 4 (by decide) (by decide) (by decide) (by decide)
    have e20 := h1 6 0 (by decide) (by decide) (by decide) (by decide)
    have e21 := h1 6 1 (by decide) (by decide) (by decide) (by decide)
    have e22 := h1 6 2 (by decide) (by decide) (by decide) (by decide)
    have e23 := h2 6 3 (by decide) (by decide) (by decide)
    have e24 := h4 6 (by decide) (by decide)
    have e25 := h1 6 4 (by decide) (by decide) (by decide) (by decide)
    have e26 := h1 6 5 (by decide) (by decide) (by decide) (by decide)
    simp only [sm2, smN, Nat.zero_add, Nat.add_zero]
    omega
  | 4, _ =>
    have e0 := h1 1 0 (by decide) (by decide) (by decide) (by decide)
    have e1 := h1 2 0 (by decide) (by decide) (by decide) (by decide)
    have e2 := h1 2 1 (by decide) (by decide) (by decide) (by decide)
    have e3 := h1 3 0 (by decide) (by decide) (by decide) (by decide)
    have e4 := h1 3 1 (by decide) (by decide) (by decide) (by decide)
    have e5 := h1 3 2 (by decide) (by decide) (by decide) (by decide)
    have e6 := h2 4 0 (by decide) (by decide) (by decide)
    have e7 := h3 0 (by decide)
    have e8 := h2 4 1 (by decide) (by decide) (by decide)
    have e9 := h3 1 (by decide)
    have e10 := h2 4 2 (by decide) (by decide) (by decide)
    have e11 := h3 2 (by decide)
    have e12 := h2 4 3 (by decide) (by decide) (by decide)
    have e13 := h3 3 (by decide)
    have e14 := h1 5 0 (by decide) (by decide) (by decide) (by decide)
    have e15 := h1 5 1 (by decide) (by decide) (by decide) (by decide)
    have e16 := h1 5 2 (by decide) (by decide) (by decide) (by decide)
    have e17 := h1 5 3 (by decide) (by decide) (by decide) (by decide)
    have e18 := h2 5 4 (by decide) (by decide) (by decide)
    have e19 := h4 5 (by decide) (by decide)
    have e20 := h1 6 0 (by decide) (by decide) (by decide) (by decide)
    have e21 := h1 6 1 (by decide) (by decide) (by decide) (by decide)
    have e22 := h1 6 2 (by decide) (by decide) (by decide) (by decide)
    have e23 := h1 6 3 (by decide) (by decide) (by decide) (by decide)
    have e24 := h2 6 4 (by decide) (by decide) (by decide)
    have e25 := h4 6 (by decide) (by decide)
    have e26 := h1 6 5 (by decide) (by decide) (by decide) (by decide)
    simp only [sm2, smN, Nat.zero_add, Nat.add_zero]
    omega
  | 5, _ =>
    have e0 := h1 1 0 (by decide) (by decide) (by decide) (by decide)
    have e1 := h1 2 0 (by decide) (by decide) (by decide) (by decide)
    have e2 := h1 2 1 (by decide) (by decide) (by decide) (by decide)
    have e3 := h1 3 0 (by decide) (by decide) (by decide) (by decide)
    have e4 := h1 3 1 (by decide) (by decide) (by decide) (by decide)
    have e5 := h1 3 2 (by decide) (by decide) (by decide) (by decide)
    have e6 := h1 4 0 (by decide) (by decide) (by decide) (by decide)
    have e7 := h1 4 1 (by decide) (by decide) (by decide) (by decide)
    have e8 := h1 4 2 (by decide) (by decide) (by decide) (by decide)
    have e9 := h1 4 3 (by decide) (by decide) (by decide) (by decide)
    have e10 := h2 5 0 (by decide) (by decide) (by decide)
    have e11 := h3 0 (by decide)
    have e12 := h2 5 1 (by decide) (by decide) (by decide)
    have e13 := h3 1 (by decide)
    have e14 := h2 5 2 (by decide) (by decide) (by decide)
    have e15 := h3 2 (by decide)
    have e16 := h2 5 3 (by decide) (by decide) (by decide)
    have e17 := h3 3 (by decide)
    have e18 := h2 5 4 (by decide) (by decide) (by decide)
    have e19 := h3 4 (by decide)
    have e20 := h1 6 0 (by decide) (by decide) (by decide) (by decide)
    have e21 := h1 6 1 (by decide) (by decide) (by decide) (by decide)
    have e22 := h1 6 2 (by decide) (by decide) (by decide) (by decide)
    have e23 := h1 6 3 (by decide) (by decide) (by decide) (by decide)
    have e24 := h1 6 4 (by decide) (by decide) (by decide) (by decide)
    have e25 := h2 6 5 (by decide) (by decide) (by decide)
    have e26 := h4 6 (by decide) (by decide)
    simp only [sm2, smN, Nat.zero_add, Nat.add_zero]
    omega
  | 6, _ =>
    have e0 := h1 1 0 (by decide) (by decide) (by decide) (by decide)
    have e1 := h1 2 0 (by decide) (by decide) (by decide) (by decide)
    have e2 := h1 2 1 (by decide) (by decide) (by decide) (by decide)
    have e3 := h1 3 0 (by decide) (by decide) (by decide) (by decide)
    have e4 := h1 3 1 (by decide) (by decide) (by decide) (by decide)
    have e5 := h1 3 2 (by decide) (by decide) (by decide) (by decide)
    have e6 := h1 4 0 (by decide) (by decide) (by decide) (by decide)
    have e7 := h1 4 1 (by decide) (by decide) (by decide) (by decide)
    have e8 := h1 4 2 (by decide) (by decide) (by decide) (by decide)
    have e9 := h1 4 3 (by decide) (by decide) (by decide) (by decide)
    have e10 := h1 5 0 (by decide) (by decide) (by decide) (by decide)
    have e11 := h1 5 1 (by decide) (by decide) (by decide) (by decide)
    have e12 := h1 5 2 (by decide) (by decide) (by decide) (by decide)
    have e13 := h1 5 3 (by decide) (by decide) (by decide) (by decide)
    have e14 := h1 5 4 (by decide) (by decide) (by decide) (by decide)
    have e15 := h2 6 0 (by decide) (by decide) (by decide)
    have e16 := h3 0 (by decide)
    have e17 := h2 6 1 (by decide) (by decide) (by decide)
    have e18 := h3 1 (by decide)
    have e19 := h2 6 2 (by decide) (by decide) (by decide)
    have e20 := h3 2 (by decide)
    have e21 := h2 6 3 (by decide) (by decide) (by decide)
    have e22 := h3 3 (by decide)
    have e23 := h2 6 4 (by decide) (by decide) (by decide)
    have e24 := h3 4 (by decide)
    have e25 := h2 6 5 (by decide) (by decide) (by decide)
    have e26 := h3 5 (by decide)
    simp only [sm2, smN, Nat.zero_add, Nat.add_zero]
    omega
  | n + 7, h => omega
/-! the pairs -/
theorem judge_B {s t : zmem} {D Y C L W k : Nat} (h : RP s t D Y C L W) (hk : k < W) : vp_in (t 73 k) 8 ∧ vp_in (t 74 k) 8 := by
  obtain ⟨-, -, ⟨i, hi, ei⟩, j, hj, ej⟩ := h.bk k hk
  have hD := h.hD
  have hY := h.hY
  rw [ei, ej]
  have tab : ∀ i, i < 8 → vp_in (Int32.ofNat i) 8 := by unfold vp_in; decide +kernel
  exact ⟨tab i (by omega), tab j (by omega)⟩
theorem S_fault {s t : zmem} {D Y C L W : Nat} (h : RP s t D Y C L W) : SIM s t D Y (s 1 4, s) (t 57 17, t) := SIM.st h h.fl
theorem mixed_hE {s t : zmem} {D Y C L W : Nat} (h : RP s t D Y C L W) {c : Int32} (h1 : ¬ rnames t D 71 (2 ^ D - 1) = 0) (h2 : ¬ (¬ c = -1 ∧ sin (t 64 1) c = 0)) (h3 : vp_in c 8) : rmxE (rnames t D) D (c.toNatClampNeg + 1) 0 (Int32.ofNat (2 ^ D - 1)) := by
  have hD := h.hD
  have z : ¬ c = -1 := by
    intro e
    subst e
    exact absurd h3 (by unfold vp_in; decide)
  rw [h.sin1] at h2
  obtain ⟨k, hk, rfl⟩ := h.dex (fun q => h2 ⟨z, q⟩)
  rw [natc (by omega)]
  exact (mixed_E h hk h1).2
theorem bribe_E6 {m : zmem} {D Y C L W : Nat} (hI : CI m D Y C L W) (h : RP m m D Y C L W) {d p : Int32} : Ei MX6_bribe 7 [.ref 0, .int d, .int p] m (sk_bribe m D C (smin 999 (9999 - sk_had m d)).toNatClampNeg d p).1 (sk_bribe m D C (smin 999 (9999 - sk_had m d)).toNatClampNeg d p).2 := by
  by_cases h1 : sin (m 7 1) d = 0
  · have e : sk_bribe m D C (smin 999 (9999 - sk_had m d)).toNatClampNeg d p = (-1000000001, m) := by unfold sk_bribe; rw [if_pos h1]
    rw [e]
    exact c6_bribe0 h1
  · obtain ⟨k, hk, rfl⟩ := h.dex h1
    have hD := h.hD
    have c5 : colok 5 := Or.inr (Or.inr (Or.inr (Or.inl rfl)))
    obtain ⟨a, ha, ea⟩ := nat_of (n := 9999) (by decide) (h.p.1 5 c5 k hk).2.1 (h.p.1 5 c5 k hk).2.2
    have eh : sk_had m (Int32.ofNat k) = Int32.ofNat a := by
      unfold sk_had
      rw [h.p.gifts hD hk, wt_k (by omega)]
      exact ea
    have e1 : 9999 - Int32.ofNat a = Int32.ofNat (9999 - a) := by
      have : Int32.ofNat (9999 - a) + Int32.ofNat a = 9999 := by
        rw [← Int32.ofNat_add, show 9999 - a + a = 9999 by omega]; rfl
      rw [← this]; grind
    have e2 : smin 999 (9999 - sk_had m (Int32.ofNat k)) = Int32.ofNat (min 999 (9999 - a)) := by
      rw [eh, e1]
      unfold smin
      by_cases q : 9999 - a < 999
      · rw [if_pos (show Int32.ofNat (9999 - a) < 999 from (n_lt (b := 999) (by omega) (by decide)).mpr q)]
        congr 1; omega
      · rw [if_neg (fun z : Int32.ofNat (9999 - a) < 999 => q ((n_lt (b := 999) (by omega) (by decide)).mp z)), show min 999 (9999 - a) = 999 by omega]
        rfl
    have e3 : (smin 999 (9999 - sk_had m (Int32.ofNat k))).toNatClampNeg = min 999 (9999 - a) := by rw [e2, natc (by omega)]
    exact c6_bribe hI (by rw [e3]; exact e2) (by rw [e3]; omega)
theorem P_feed (x0 : Int32) (x1 : Int64) : PB MX6_feed MX7_feed [.int x0, .long x1] Rel := PB_any (d6 := 2) (d7 := 1) (fun m D Y C L W => sk_feed m x0 x1) (fun t D Y C L W => rk_feed t x0 x1) (by decide) (by decide) (fun m D Y C L W hI hr => c6_feed hI) (fun s t D Y C L W hI hr => c7_feed hr.L1.2.1 hr.L1.2.2) (fun s t D Y C L W h => S_feed h x0 x1)
theorem P_fault  : PB MX6_fault MX7_fault [] Rel := PB_now (d6 := 1) (d7 := 0) (fun m D Y C L W => (m 1 4, m)) (fun t D Y C L W => (t 57 17, t)) (by decide) (by decide) (fun m D Y C L W hI hr => c6_fault hI) (fun s t D Y C L W hI hr => c7_fault) (fun s t D Y C L W h => S_fault h)
theorem P_told (x0 : Int32) : PB MX6_told MX7_told [.int x0] Rel := PB_now (d6 := 5) (d7 := 2) (fun m D Y C L W => (sk_told m D x0, m)) (fun t D Y C L W => (rk_told t D x0, t)) (by decide) (by decide) (fun m D Y C L W hI hr => c6_told hI) (fun s t D Y C L W hI hr => c7_told hI) (fun s t D Y C L W h => S_told h x0)
theorem P_yard (x0 x1 : Int32) : PB MX6_yard MX7_yard [.int x0, .int x1] Rel := PB_now (d6 := 5) (d7 := 2) (fun m D Y C L W => (sk_yard m D x0 x1, m)) (fun t D Y C L W => (rk_yard t D x0 x1, t)) (by decide) (by decide) (fun m D Y C L W hI hr => c6_yard hI) (fun s t D Y C L W hI hr => c7_yard hI) (fun s t D Y C L W h => S_yard h x0 x1)
theorem P_dead (x0 x1 : Int32) : PB MX6_dead MX7_dead [.int x0, .int x1] Rel := PB_now (d6 := 5) (d7 := 2) (fun m D Y C L W => (sk_dead m x0 x1, m)) (fun t D Y C L W => (rk_dead t x0 x1, t)) (by decide) (by decide) (fun m D Y C L W hI hr => c6_dead hI) (fun s t D Y C L W hI hr => c7_dead hI) (fun s t D Y C L W h => S_dead h x0 x1)
theorem P_order (x0 : Int32) : PB MX6_order MX7_order [.int x0] Rel := PB_now (d6 := 6) (d7 := 5) (fun m D Y C L W => (sk_order m D C x0, m)) (fun t D Y C L W => (rorder t 0 C D x0, t)) (by decide) (by decide) (fun m D Y C L W hI hr => c6_order hI) (fun s t D Y C L W hI hr => c7_orderp hI) (fun s t D Y C L W h => S_order h x0)
theorem P_letter (x0 x1 : Int32) : PB MX6_letter MX7_letter [.int x0, .int x1] Rel := PB_now (d6 := 5) (d7 := 2) (fun m D Y C L W => sk_letter m x0 x1) (fun t D Y C L W => rk_letter t x0 x1) (by decide) (by decide) (fun m D Y C L W hI hr => c6_letter hI) (fun s t D Y C L W hI hr => c7_letter hI) (fun s t D Y C L W h => S_letter h x0 x1)
theorem P_gift (x0 x1 : Int32) : PB MX6_gift MX7_gift [.int x0, .int x1] Rel := PB_now (d6 := 5) (d7 := 2) (fun m D Y C L W => sk_gift m D x0 x1) (fun t D Y C L W => rk_gift t x0 x1) (by decide) (by decide) (fun m D Y C L W hI hr => c6_gift hI) (fun s t D Y C L W hI hr => c7_gift hI) (fun s t D Y C L W h => S_gift h x0 x1)
theorem P_knock (x0 : Int32) : PB MX6_knock MX7_knock [.int x0] Rel := PB_now (d6 := 6) (d7 := 4) (fun m D Y C L W => sk_knock m D C x0) (fun t D Y C L W => rk_knock t D C x0) (by decide) (by decide) (fun m D Y C L W hI hr => c6_knock hI) (fun s t D Y C L W hI hr => c7_knock hI) (fun s t D Y C L W h => S_knock h x0)
theorem P_day (x0 : Int32) : PB MX6_day MX7_day [.int x0] Rel := PB_now (d6 := 6) (d7 := 2) (fun m D Y C L W => sk_day m D Y x0) (fun t D Y C L W => rk_day t D Y x0) (by decide) (by decide) (fun m D Y C L W hI hr => c6_day hI) (fun s t D Y C L W hI hr => c7_day hI) (fun s t D Y C L W h => S_day h x0)
theorem P_rats (x0 x1 : Int32) : PB MX6_rats MX7_rats [.int x0, .int x1] Rel := PB_now (d6 := 6) (d7 := 2) (fun m D Y C L W => sk_rats m D x0 x1) (fun t D Y C L W => rk_rats t D x0 x1) (by decide) (by decide) (fun m D Y C L W hI hr => c6_rats hI) (fun s t D Y C L W hI hr => c7_rats hI) (fun s t D Y C L W h => S_rats h x0 x1)
theorem P_lay (x0 x1 : Int32) : PB MX6_lay MX7_lay [.int x0, .int x1] Rel := PB_now (d6 := 6) (d7 := 2) (fun m D Y C L W => sk_lay m D x0 x1) (fun t D Y C L W => rk_lay t D x0 x1) (by decide) (by decide) (fun m D Y C L W hI hr => c6_lay hI) (fun s t D Y C L W hI hr => c7_lay hI) (fun s t D Y C L W h => S_lay h x0 x1)
theorem P_spring (x0 x1 : Int32) : PB MX6_spring MX7_spring [.int x0, .int x1] Rel := PB_now (d6 := 8) (d7 := 6) (fun m D Y C L W => sk_spring m D Y C x0 x1) (fun t D Y C L W => rk_spring t D Y C x0 x1) (by decide) (by decide) (fun m D Y C L W hI hr => c6_spring hI) (fun s t D Y C L W hI hr => c7_spring hI) (fun s t D Y C L W h => S_spring h x0 x1)
theorem P_offended (x0 : Int32) : PB MX6_offended MX7_offended [.int x0] Rel := PB_now (d6 := 6) (d7 := 3) (fun m D Y C L W => sk_offended m D C x0) (fun t D Y C L W => (rk_offended t D C x0, t)) (by decide) (by decide) (fun m D Y C L W hI hr => c6_offended hI) (fun s t D Y C L W hI hr => c7_offended hI) (fun s t D Y C L W h => S_offended h x0)
theorem P_quarrels : PB MX6_quarrels MX7_quarrels [] Rel := by
  refine PB_mk (d6 := 6) (d7 := 4) (by decide) (by decide) (fun m D Y C L W hm => ?_)
  have c6 := c6_quarrels hm.c
  have key0 : ∀ t, RP m t D Y C L W → SIM m t D Y (sqnow (spbegin C m), spbegin C m) (rquar t 0 C D, t) := fun t h => S_quarrels h
  obtain ⟨u, hu⟩ : ∃ u, u = spbegin C m := ⟨_, rfl⟩
  rw [← hu] at c6
  have key : ∀ t, RP m t D Y C L W → SIM m t D Y (sqnow u, u) (rquar t 0 C D, t) := by rw [hu]; exact key0
  have s1 := key m hm
  have hk : ∀ q, 57 ≤ q → u q = m q := fun q hq => s1.2.1.1 q (by simp [gC]; omega)
  have hm1 : RP m u D Y C L W := hm.congr (fun _ _ => rfl) hk
  have s2 := key u hm1
  have c7 := c7_quarrels hm1.r
  have e : rquar u 0 C D = sqnow u := s2.1.symm
  rw [e] at c7
  exact ⟨sqnow u, u, u, c6, hk, fun _ _ => rfl, fun _ => ⟨c7, D, Y, C, L, W, hm1.now s2.2.1 s2.2.2.1 s2.2.2.2⟩⟩
theorem P_when (x0 x1 : Int32) : PB MX6_when MX7_when [.int x0, .int x1] Rel := PB_now (d6 := 6) (d7 := 3) (fun m D Y C L W => (sk_when m D Y x0 x1, m)) (fun t D Y C L W => (rk_when t D Y x0 x1, t)) (by decide) (by decide) (fun m D Y C L W hI hr => c6_when hI) (fun s t D Y C L W hI hr => c7_when hI) (fun s t D Y C L W h => S_when h x0 x1)
theorem P_span (x0 x1 x2 x3 : Int32) : PB MX6_span MX7_span [.int x0, .int x1, .int x2, .int x3] Rel := PB_now (d6 := 6) (d7 := 3) (fun m D Y C L W => (sk_span m D Y x0 x1 x2 x3, m)) (fun t D Y C L W => (rk_span t D Y x0 x1 x2 x3, t)) (by decide) (by decide) (fun m D Y C L W hI hr => c6_span hI) (fun s t D Y C L W hI hr => c7_span hI) (fun s t D Y C L W h => S_span h x0 x1 x2 x3)
theorem P_bribe (x0 x1 : Int32) : PB MX6_bribe MX7_bribe [.int x0, .int x1] Rel := PB_now (d6 := 7) (d7 := 4) (fun m D Y C L W => sk_bribe m D C (smin 999 (9999 - sk_had m x0)).toNatClampNeg x0 x1) (fun t D Y C L W => rk_bribe t C D x0 x1) (by decide) (by decide) (fun m D Y C L W hI hr => bribe_E6 hI hr) (fun s t D Y C L W hI hr => c7_bribe hI) (fun s t D Y C L W h => S_bribe h x0 x1)
theorem P_label (x0 x1 : Int32) : PB MX6_label MX7_label [.int x0, .int x1] Rel := PB_now (d6 := 5) (d7 := 2) (fun m D Y C L W => sk_label m x0 x1) (fun t D Y C L W => rk_label t x0 x1) (by decide) (by decide) (fun m D Y C L W hI hr => c6_label hI) (fun s t D Y C L W hI hr => c7_label hI) (fun s t D Y C L W h => S_label h x0 x1)
theorem P_mark (x0 x1 : Int32) : PB MX6_mark MX7_mark [.int x0, .int x1] Rel := PB_now (d6 := 5) (d7 := 2) (fun m D Y C L W => sk_mark m x0 x1) (fun t D Y C L W => rk_mark t x0 x1) (by decide) (by decide) (fun m D Y C L W hI hr => c6_mark hI) (fun s t D Y C L W hI hr => c7_mark hI) (fun s t D Y C L W h => S_mark h x0 x1)
theorem P_fits  : PB MX6_fits MX7_fits [] Rel := PB_now (d6 := 4) (d7 := 3) (fun m D Y C L W => (aat 128 (scw m D (2 ^ D - 1) 56) (Int32.ofNat (2 ^ D - 1)), scw m D (2 ^ D - 1))) (fun t D Y C L W => rk_fits t D) (by decide) (by decide) (fun m D Y C L W hI hr => c6_fits hI) (fun s t D Y C L W hI hr => c7_fits hI) (fun s t D Y C L W h => S_fits h)
theorem P_mixed (x0 : Int32) : PB MX6_mixed MX7_mixed [.int x0] Rel := PB_now (d6 := 4) (d7 := 3) (fun m D Y C L W => sk_mixed m D x0) (fun t D Y C L W => rk_mixed t D x0) (by decide) (by decide) (fun m D Y C L W hI hr => c6_mixed hI) (fun s t D Y C L W hI hr => c7_mixed hI (fun h1 h2 h3 => mixed_hE hr h1 h2 h3)) (fun s t D Y C L W h => S_mixed h x0)
theorem P_churches (x0 : Int32) : PB MX6_churches MX7_churches [.int x0] Rel := PB_now (d6 := 4) (d7 := 2) (fun m D Y C L W => (sk_churches m D x0, m)) (fun t D Y C L W => (rk_churches t D x0, t)) (by decide) (by decide) (fun m D Y C L W hI hr => c6_churches hI) (fun s t D Y C L W hI hr => c7_churches hI) (fun s t D Y C L W h => S_churches h x0)
theorem P_write (x0 x1 : Int32) : PB MX6_write MX7_write [.int x0, .int x1] Rel := PB_any (d6 := 5) (d7 := 2) (fun m D Y C L W => sk_write m x0 x1) (fun t D Y C L W => rk_write t W x0 x1) (by decide) (by decide) (fun m D Y C L W hI hr => c6_write hI) (fun s t D Y C L W hI hr => c7_write hI) (fun s t D Y C L W h => S_write h x0 x1)
theorem P_tear  : PB MX6_tear MX7_tear [] Rel := PB_any (d6 := 1) (d7 := 0) (fun m D Y C L W => (m 47 2, mset m 47 2 0)) (fun t D Y C L W => rk_tear t) (by decide) (by decide) (fun m D Y C L W hI hr => c6_tear hI) (fun s t D Y C L W hI hr => c7_tear) (fun s t D Y C L W h => S_tear h)
theorem P_judge  : PB MX6_judge MX7_judge [] Rel := PB_now (d6 := 6) (d7 := 5) (fun m D Y C L W => (sk_jud m D C W 0 (swait m 7 D) (ssf m 7 D Y), m)) (fun t D Y C L W => rk_judge t D C W) (by decide) (by decide) (fun m D Y C L W hI hr => c6_judge hI) (fun s t D Y C L W hI hr => c7_judge hI (fun k hk => judge_B hr hk)) (fun s t D Y C L W h => S_judge h)
theorem P_seed (x0 : Int32) : PB MX6_seed MX7_seed [.int x0] Rel := PB_now (d6 := 1) (d7 := 0) (fun m D Y C L W => sk_seed m x0) (fun t D Y C L W => rk_seed t x0) (by decide) (by decide) (fun m D Y C L W hI hr => c6_seed hI) (fun s t D Y C L W hI hr => c7_seed) (fun s t D Y C L W h => S_seed h x0)
theorem P_keep (x0 : Int32) : PB MX6_keep MX7_keep [.int x0] Rel := PB_any (d6 := 5) (d7 := 2) (fun m D Y C L W => sk_keep m x0) (fun t D Y C L W => rk_keep t x0) (by decide) (by decide) (fun m D Y C L W hI hr => c6_keep hI) (fun s t D Y C L W hI hr => c7_keep) (fun s t D Y C L W h => S_keep h x0)
theorem P_goBack (x0 : Int32) : PB MX6_goBack MX7_goBack [.int x0] Rel := PB_now (d6 := 5) (d7 := 2) (fun m D Y C L W => sk_goBack m x0) (fun t D Y C L W => rk_goBack t x0) (by decide) (by decide) (fun m D Y C L W hI hr => c6_goBack hI) (fun s t D Y C L W hI hr => c7_goBack) (fun s t D Y C L W h => S_goBack h x0)
theorem eqA_of (hparish : PB MX6_parish MX7_parish [] Rel) (hcustom : PB MX6_custom MX7_custom [] Rel) (hlaying : ∀ (x0 : Int32), PB MX6_laying MX7_laying [.int x0] Rel) : EqA Rel := ⟨fun x0 x1 => P_feed x0 x1, hparish, hcustom, P_fault, fun x0 => P_told x0, fun x0 x1 => P_yard x0 x1, fun x0 x1 => P_dead x0 x1, fun x0 => P_order x0, fun x0 x1 => P_letter x0 x1, fun x0 x1 => P_gift x0 x1, fun x0 => P_knock x0, fun x0 => P_day x0, fun x0 x1 => P_rats x0 x1, fun x0 x1 => P_lay x0 x1, fun x0 x1 => P_spring x0 x1, fun x0 => P_offended x0, P_quarrels, hlaying, fun x0 x1 => P_when x0 x1, fun x0 x1 x2 x3 => P_span x0 x1 x2 x3, fun x0 x1 => P_bribe x0 x1, fun x0 x1 => P_label x0 x1, fun x0 x1 => P_mark x0 x1, P_fits, fun x0 => P_mixed x0, fun x0 => P_churches x0, fun x0 x1 => P_write x0 x1, P_tear, P_judge, fun x0 => P_seed x0, fun x0 => P_keep x0, fun x0 => P_goBack x0⟩
theorem z7 : ∀ q, q < 57 → m00 q = mc1 q := fun q hq => by funext j; unfold m00; rw [if_pos hq]
theorem rel00 : Rel m00 := by
  refine ⟨0, 0, 2, 0, 0, ⟨by decide, by decide, by decide, by decide, by decide, by decide, by decide, by decide, by decide, by decide⟩, ⟨by decide, by decide, by decide, by decide, by decide, by decide, by decide, by decide, by decide, by decide⟩, ⟨fun c hc k hk => ?_, fun k hk => by omega, fun k hk => by omega, by decide, by decide, by decide, fun j k hj => by omega⟩, by decide, fun k hk => ?_, fun k hk => by omega, fun k hk => by omega, by decide, ⟨by decide, by decide⟩, fun q => absurd (show m00 0 7 = 0 by decide) q, fun q => absurd (show m00 0 8 = 0 by decide) q⟩
  · unfold colN at hk
    by_cases e : c = 1 <;> simp [e] at hk
  · match k, hk with
    | 0, _ => exact ⟨by decide, 0, by decide, by decide⟩
    | 1, _ => exact ⟨by decide, 1, by decide, by decide⟩
    | n + 2, q => omega
