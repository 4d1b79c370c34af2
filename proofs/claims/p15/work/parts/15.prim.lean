theorem Sim.dom {E : gE} {x : Nat} {aa : Nat → Nat} {A : gA} {n : Nat} {G : gG} (hS : Sim E x aa A n G) {c : Nat} (hc : lvc A n c) : G (aa c) ≠ none := by
  obtain ⟨-, s1, s2, s3, s4, s5, s6, -⟩ := hS
  rcases hc with h | ⟨t, h1, h2, h | ⟨h, q⟩ | ⟨h | h, q⟩⟩
  · have : c = 0 ∨ c = 1 ∨ c = 2 := by omega
    rcases this with rfl | rfl | rfl
    · rw [s1]; exact fun z => by cases z
    · rw [s2]; exact fun z => by cases z
    · rw [s3]; exact fun z => by cases z
  · subst h; rw [s4 t h1 h2]; exact fun z => by cases z
  · subst h; rw [s5 t h1 h2 q]; exact fun z => by cases z
  · subst h; rw [(s6 t h1 h2 q).1]; exact fun z => by cases z
  · subst h; rw [(s6 t h1 h2 q).2]; exact fun z => by cases z
theorem adr_up {aa : Nat → Nat} {c q : Nat} {w : Int32} (h : 4 * ix w ≠ c) : adr (va_up aa c q) w = adr aa w := by
  unfold adr
  rw [va_up_ne _ _ h]
theorem thf_up {aa : Nat → Nat} {A B : gA} {c q t : Nat} (e : ∀ k ∈ [2, 3, 4, 5, 7, 10, 11, 12], B k t = A k t) (h1 : 4 * t + 1 ≠ c) (h2 : 4 * t + 2 ≠ c) (h3 : 4 * ix (A 10 t) ≠ c) (h4 : 4 * ix (A 11 t) ≠ c) (h5 : 4 * ix (A 12 t) ≠ c) : thc aa A t = thc (va_up aa c q) B t := by
  unfold thc thf hvf rwo cbo
  rw [e 2 (by decide), e 3 (by decide), e 4 (by decide), e 5 (by decide), e 7 (by decide), e 10 (by decide), e 11 (by decide), e 12 (by decide), adr_up h3, adr_up h4, adr_up h5, va_up_ne _ _ h1, va_up_ne _ _ h2]
theorem z2_ne {A : gA} {k j n k1 : Nat} (h : k1 ≠ k) : z2 A k j n k1 = A k1 := by
  funext i
  simp [z2, h]
theorem z2_in {A : gA} {k j n i : Nat} (h1 : j ≤ i) (h2 : i < j + n) : z2 A k j n k i = 0 := by simp [z2, h1, h2]
theorem z2_out {A : gA} {k j n i : Nat} (h : i < j ∨ j + n ≤ i) : z2 A k j n k i = A k i := by
  simp only [z2]
  rw [if_neg (by omega)]
theorem adr_z (aa : Nat → Nat) : adr aa 0 = none := adr_n (by decide)
theorem fit_z (A : gA) (lo hi : Int32) : fit A 0 lo hi = true := fit_0 lo hi (by decide)
theorem SW.p9 {E : gE} {x : Nat} {aa : Nat → Nat} {A : gA} {n : Nat} {G G1 : gG} (hS : SW E x aa A n G) (h j q : Nat) (h10 : 1 ≤ h) (h20 : h ≤ n) (hj : j ≤ 30) (hq : G q = none) (hG : ∀ p, p ≠ q → p ≠ aa (4 * h) → G1 p = G p) (hg1 : G1 q = some (.inl (E.2.2.2, j, .inr (.inr (.inr (.inr (fun _ => none))))))) (hg2 : G1 (aa (4 * h)) = some (thc (va_up aa (4 * h + 1) q) (z2 (u2 A 5 h (nI j)) 6 (30 * h) 30) h)) : SW E x (va_up aa (4 * h + 1) q) (z2 (u2 A 5 h (nI j)) 6 (30 * h) 30) n G1 := by
  have e : ∀ k, k ≠ 5 → k ≠ 6 → z2 (u2 A 5 h (nI j)) 6 (30 * h) 30 k = A k := fun k h1 h2 => by rw [z2_ne h2, u2_ne h1]
  have e5 : ∀ t, t ≠ h → z2 (u2 A 5 h (nI j)) 6 (30 * h) 30 5 t = A 5 t := fun t ht => by rw [z2_ne (by decide), u2_at ht]
  have e5h : z2 (u2 A 5 h (nI j)) 6 (30 * h) 30 5 h = nI j := by rw [z2_ne (by decide), u2_hit]
  have e6 : ∀ t k, t ≠ h → k < 30 → z2 (u2 A 5 h (nI j)) 6 (30 * h) 30 6 (30 * t + k) = A 6 (30 * t + k) := fun t k ht hk => by rw [z2_out (by omega), u2_ne (by decide)]
  have e6h : ∀ k, k < 30 → z2 (u2 A 5 h (nI j)) 6 (30 * h) 30 6 (30 * h + k) = 0 := fun k hk => z2_in (by omega) (by omega)
  have f := fit_of (e 2 (by decide) (by decide))
  generalize z2 (u2 A 5 h (nI j)) 6 (30 * h) 30 = B at *
  have hpos : ¬ B 5 h < 0 := by rw [e5h]; exact nI_pos (by omega)
  have four : ∀ w : Int32, 4 * ix w ≠ 4 * h + 1 := fun w => by omega
  have hS0 := hS.2.2
  obtain ⟨s0, s1, s2, s3, s4, s5, s6, s7⟩ := hS.2.2
  have hne : ∀ c, lvc A n c → aa c ≠ q := fun c hc z => hS0.dom hc (by rw [z]; exact hq)
  have off : ∀ c, lvc A n c → c ≠ 4 * h → G1 (aa c) = G (aa c) := fun c hc hn => hG _ (hne c hc) (fun z => hn (s7 c _ hc (lvt h10 h20) z))
  refine ⟨?_, ?_, ?_, ?_, ?_, ?_, fun t h1 h2 => ?_, fun t h1 h2 h3 => ?_, fun t h1 h2 h3 => ?_, ?_⟩
  · obtain ⟨a1, a2, a3, a4, a5⟩ := hS.1
    unfold wf
    rw [e 0 (by decide) (by decide), e 1 (by decide) (by decide), e 7 (by decide) (by decide), e 8 (by decide) (by decide), e 10 (by decide) (by decide), e 11 (by decide) (by decide), e 12 (by decide) (by decide)]
    refine ⟨a1, a2, fun t ht h5t k hk => ?_, fun t ht => ?_, a5⟩
    · by_cases z : t = h
      · subst z; rw [e6h k hk]; exact ⟨0, by omega, nI_0.symm⟩
      · rw [e6 t k z hk]; rw [e5 t z] at h5t; exact a3 t ht h5t k hk
    · by_cases z : t = h
      · subst z; rw [e5h]; exact Or.inr ⟨j, hj, rfl⟩
      · rw [e5 t z]; exact a4 t ht
  · obtain ⟨a1, a2, a3, a4⟩ := hS.2.1
    unfold wfc
    rw [e 2 (by decide) (by decide), e 10 (by decide) (by decide), e 11 (by decide) (by decide), e 12 (by decide) (by decide)]
    simp only [f]
    refine ⟨a1, fun t h1 h2 h5t k hk => ?_, a3, fun t h1 h2 h5t k hk h7 => ?_⟩
    · by_cases z : t = h
      · subst z; rw [e6h k hk]; exact fit_z _ _ _
      · rw [e6 t k z hk]; rw [e5 t z] at h5t; exact a2 t h1 h2 h5t k hk
    · by_cases z : t = h
      · subst z; rw [e6h k hk]; exact fit_z _ _ _
      · rw [e6 t k z hk]; rw [e5 t z] at h5t; exact a4 t h1 h2 h5t k hk h7
  · rw [va_up_ne _ _ (by omega)]; exact s0
  · rw [va_up_ne _ _ (by omega), off 0 (lv0 A n) (by omega), s1]; simp only [yc, e 14 (by decide) (by decide), va_up_ne aa q (show 1 ≠ 4 * h + 1 by omega), va_up_ne aa q (show 2 ≠ 4 * h + 1 by omega)]
  · rw [va_up_ne _ _ (by omega), off 1 (lv1 A n) (by omega), s2]
    have : shf aa A = shf (va_up aa (4 * h + 1) q) B := by
      funext k
      unfold shf
      rw [e 0 (by decide) (by decide), adr_up (four _)]
    simp only [sc, this]
  · rw [va_up_ne _ _ (by omega), off 2 (lv2 A n) (by omega), s3]; simp only [rc, e 13 (by decide) (by decide)]
  · rw [va_up_ne _ _ (by omega)]
    by_cases z : t = h
    · subst z; exact hg2
    · rw [off (4 * t) (lvt h1 h2) (by omega), s4 t h1 h2]
      refine congrArg some (thf_up (fun k hk => ?_) (by omega) (by omega) (four _) (four _) (four _))
      by_cases z5 : k = 5
      · subst z5; exact e5 t z
      · rw [e k z5 (by rintro rfl; revert hk; decide)]
  · by_cases z : t = h
    · subst z
      rw [va_up_self, hg1]
      have : (fun _ : Nat => (none : Option Nat)) = rwf (va_up aa (4 * t + 1) q) B t := by
        funext k
        unfold rwf
        by_cases y : k < 30
        · rw [if_pos y, e6h k y, adr_z]
        · rw [if_neg y]
      simp only [rwc, this, e5h, ix_nI (show j < 2 ^ 31 by omega)]
    · rw [e5 t z] at h3
      rw [va_up_ne _ _ (by omega), off (4 * t + 1) (lvr h1 h2 h3) (by omega), s5 t h1 h2 h3]
      have : rwf aa A t = rwf (va_up aa (4 * h + 1) q) B t := by
        funext k
        unfold rwf
        by_cases y : k < 30
        · rw [if_pos y, if_pos y, e6 t k z y, adr_up (four _)]
        · rw [if_neg y, if_neg y]
      simp only [rwc, this, e5 t z]
  · rw [e 7 (by decide) (by decide)] at h3
    rw [va_up_ne _ _ (by omega), va_up_ne _ _ (by omega), off (4 * t + 2) (lvb h1 h2 h3) (by omega), off (4 * t + 3) (lvd h1 h2 h3) (by omega), (s6 t h1 h2 h3).1, (s6 t h1 h2 h3).2]
    refine ⟨by simp only [cbc, e 7 (by decide) (by decide), e 8 (by decide) (by decide), va_up_ne aa q (show 4 * t + 3 ≠ 4 * h + 1 by omega)], congrArg some (clf_of (by rw [e 7 (by decide) (by decide)]) (by rw [e 8 (by decide) (by decide)]) (fun k => by rw [e 9 (by decide) (by decide)]))⟩
  · have back : ∀ c, lvc B n c → c ≠ 4 * h + 1 → lvc A n c := by
      intro c hc hne
      rcases hc with y | ⟨t, h1, h2, y | ⟨y, z⟩ | ⟨y, z⟩⟩
      · exact Or.inl y
      · exact Or.inr ⟨t, h1, h2, Or.inl y⟩
      · have : t ≠ h := by rintro rfl; exact hne y
        rw [e5 t this] at z
        exact Or.inr ⟨t, h1, h2, Or.inr (Or.inl ⟨y, z⟩)⟩
      · rw [e 7 (by decide) (by decide)] at z
        exact Or.inr ⟨t, h1, h2, Or.inr (Or.inr ⟨y, z⟩)⟩
    intro c d hc hd hcd
    by_cases y : c = 4 * h + 1
    · by_cases z : d = 4 * h + 1
      · omega
      · rw [y, va_up_self, va_up_ne _ _ z] at hcd
        exact absurd hcd.symm (hne d (back d hd z))
    · by_cases z : d = 4 * h + 1
      · rw [z, va_up_self, va_up_ne _ _ y] at hcd
        exact absurd hcd (hne c (back c hc y))
      · rw [va_up_ne _ _ y, va_up_ne _ _ z] at hcd
        exact s7 c d (back c hc y) (back d hd z) hcd
theorem nthg_old {A : gA} {so v : Int32} {k t : Nat} (hk : k ≠ 1) (ht : t ≠ ix (A 1 0 + 1)) : nthg A so v k t = A k t := by
  unfold nthg
  simp only [u2]
  simp [hk, ht]
theorem nthg_row {A : gA} {so v : Int32} {k : Nat} (hk : k ∈ [0, 6, 9, 13, 14]) : nthg A so v k = A k := by
  funext t
  unfold nthg
  simp only [List.mem_cons, List.not_mem_nil, or_false] at hk
  rcases hk with rfl | rfl | rfl | rfl | rfl <;> simp [u2]
theorem SW.pnt {E : gE} {x : Nat} {aa : Nat → Nat} {A : gA} {n : Nat} {G : gG} (hS : SW E x aa A n G) (hn : n < 600) {k0 : Nat} (hk0 : k0 ≤ 7) (v : Int32) {q : Nat} (hq : G q = none) {y : va_E} (hy : y = thc (va_up aa (4 * (n + 1)) q) (nthg A (nI k0) v) (n + 1)) : SW E x (va_up aa (4 * (n + 1)) q) (nthg A (nI k0) v) (n + 1) (gu G q y) := by
  have i1 : ix (A 1 0 + 1) = n + 1 := by rw [hS.1.1, nI_1, ix_nI (by omega)]
  have e : ∀ k t, k ≠ 1 → t ≠ n + 1 → nthg A (nI k0) v k t = A k t := fun k t h1 h2 => nthg_old h1 (by rw [i1]; exact h2)
  have er : ∀ k ∈ [0, 6, 9, 13, 14], nthg A (nI k0) v k = A k := fun k hk => nthg_row hk
  have n1 : nthg A (nI k0) v 1 0 = nI (n + 1) := by unfold nthg; simp [u2]; rw [hS.1.1, nI_1]
  have n2 : nthg A (nI k0) v 2 (n + 1) = nI k0 := by unfold nthg; simp [u2, i1]
  have n5 : nthg A (nI k0) v 5 (n + 1) = -1 := by unfold nthg; simp [u2, i1]
  have n7 : nthg A (nI k0) v 7 (n + 1) = -1 := by unfold nthg; simp [u2, i1]
  have n8 : nthg A (nI k0) v 8 (n + 1) = 0 := by unfold nthg; simp [u2, i1]
  have n10 : nthg A (nI k0) v 10 (n + 1) = 0 := by unfold nthg; simp [u2, i1]
  have n11 : nthg A (nI k0) v 11 (n + 1) = 0 := by unfold nthg; simp [u2, i1]
  have n12 : nthg A (nI k0) v 12 (n + 1) = 0 := by unfold nthg; simp [u2, i1]
  generalize nthg A (nI k0) v = B at *
  have m1 : ((-1 : Int32) < 0) := by decide
  have hS0 := hS.2.2
  obtain ⟨s0, s1, s2, s3, s4, s5, s6, s7⟩ := hS.2.2
  obtain ⟨a1, a2, a3, a4, a5, a6, a7, a8, a9⟩ := hS.1
  obtain ⟨b1, b2, b3, b4⟩ := hS.2.1
  have hne : ∀ c, lvc A n c → aa c ≠ q := fun c hc z => hS0.dom hc (by rw [z]; exact hq)
  have off : ∀ c, lvc A n c → gu G q y (aa c) = G (aa c) := fun c hc => gu_n (hne c hc)
  have four : ∀ w : Int32, (∃ t, t ≤ n ∧ w = nI t) → 4 * ix w ≠ 4 * (n + 1) := by
    rintro w ⟨t, ht, rfl⟩
    rw [ix_nI (by omega)]
    omega
  have ft : ∀ (w lo hi : Int32), (∃ t, t ≤ n ∧ w = nI t) → fit B w lo hi = fit A w lo hi := by
    rintro w lo hi ⟨t, ht, rfl⟩
    unfold fit
    rw [ix_nI (by omega), e 2 t (by decide) (by omega)]
  refine ⟨?_, ?_, ?_, ?_, ?_, ?_, fun t h1 h2 => ?_, fun t h1 h2 h3 => ?_, fun t h1 h2 h3 => ?_, ?_⟩
  · have up : ∀ {w : Int32}, (∃ t, t ≤ n ∧ w = nI t) → ∃ t, t ≤ n + 1 ∧ w = nI t := fun ⟨t, ht, z⟩ => ⟨t, by omega, z⟩
    refine ⟨n1, fun k hk => ?_, fun h hh h5 k hk => ?_, fun h hh => ?_, fun h hh => ?_, fun h hh => ?_, fun h hh => ?_, fun h hh => ?_, fun h hh => ?_⟩
    · rw [er 0 (by decide)]; exact up (a2 k hk)
    · by_cases z : h = n + 1
      · subst z; rw [n5] at h5; exact absurd m1 h5
      · rw [e 5 h (by decide) z] at h5; rw [er 6 (by decide)]; exact up (a3 h (by omega) h5 k hk)
    · by_cases z : h = n + 1
      · subst z; exact Or.inl n5
      · rw [e 5 h (by decide) z]; exact a4 h (by omega)
    · by_cases z : h = n + 1
      · subst z; exact ⟨0, by omega, by rw [n10, nI_0]⟩
      · rw [e 10 h (by decide) z]; exact up (a5 h (by omega))
    · by_cases z : h = n + 1
      · subst z; exact ⟨0, by omega, by rw [n11, nI_0]⟩
      · rw [e 11 h (by decide) z]; exact up (a6 h (by omega))
    · by_cases z : h = n + 1
      · subst z; exact ⟨0, by omega, by rw [n12, nI_0]⟩
      · rw [e 12 h (by decide) z]; exact up (a7 h (by omega))
    · by_cases z : h = n + 1
      · subst z; exact Or.inl n7
      · rw [e 7 h (by decide) z]; exact a8 h (by omega)
    · by_cases z : h = n + 1
      · subst z; exact ⟨0, by omega, by rw [n8, nI_0]⟩
      · rw [e 8 h (by decide) z]; exact a9 h (by omega)
  · refine ⟨fun t h1 h2 => ?_, fun h h1 h2 h5 k hk => ?_, fun h h1 h2 => ?_, fun h h1 h2 h5 k hk h7 => ?_⟩
    · by_cases z : t = n + 1
      · subst z; exact ⟨k0, hk0, n2⟩
      · rw [e 2 t (by decide) z]; exact b1 t h1 (by omega)
    · by_cases z : h = n + 1
      · subst z; rw [n5] at h5; exact absurd m1 h5
      · rw [e 5 h (by decide) z] at h5; rw [er 6 (by decide), ft _ _ _ (a3 h (by omega) h5 k hk)]; exact b2 h h1 (by omega) h5 k hk
    · by_cases z : h = n + 1
      · subst z; rw [n10, n11, n12]; exact ⟨fit_z _ _ _, fit_z _ _ _, fit_z _ _ _⟩
      · rw [e 10 h (by decide) z, e 11 h (by decide) z, e 12 h (by decide) z, ft _ _ _ (a5 h (by omega)), ft _ _ _ (a6 h (by omega)), ft _ _ _ (a7 h (by omega))]; exact b3 h h1 (by omega)
    · by_cases z : h = n + 1
      · subst z; rw [n5] at h5; exact absurd m1 h5
      · rw [e 5 h (by decide) z] at h5; rw [e 2 h (by decide) z] at h7; rw [er 6 (by decide), ft _ _ _ (a3 h (by omega) h5 k hk)]; exact b4 h h1 (by omega) h5 k hk h7
  · rw [va_up_ne _ _ (by omega)]; exact s0
  · rw [va_up_ne _ _ (by omega), off 0 (lv0 A n), s1]; simp only [yc, er 14 (by decide), va_up_ne aa q (show 1 ≠ 4 * (n + 1) by omega), va_up_ne aa q (show 2 ≠ 4 * (n + 1) by omega)]
  · rw [va_up_ne _ _ (by omega), off 1 (lv1 A n), s2]
    have : shf aa A = shf (va_up aa (4 * (n + 1)) q) B := by
      funext k
      unfold shf
      by_cases z : k < 16
      · rw [if_pos z, if_pos z, er 0 (by decide), adr_up (four _ (a2 k z))]
      · rw [if_neg z, if_neg z]
    simp only [sc, this]
  · rw [va_up_ne _ _ (by omega), off 2 (lv2 A n), s3]; simp only [rc, er 13 (by decide)]
  · by_cases z : t = n + 1
    · subst z; rw [va_up_self, gu_s, hy]
    · rw [va_up_ne _ _ (by omega), off (4 * t) (lvt h1 (by omega)), s4 t h1 (by omega)]
      exact congrArg some (thf_up (fun k hk => e k t (by rintro rfl; revert hk; decide) z) (by omega) (by omega) (four _ (a5 t (by omega))) (four _ (a6 t (by omega))) (four _ (a7 t (by omega))))
  · by_cases z : t = n + 1
    · subst z; rw [n5] at h3; exact absurd m1 h3
    · rw [e 5 t (by decide) z] at h3
      rw [va_up_ne _ _ (by omega), off (4 * t + 1) (lvr h1 (by omega) h3), s5 t h1 (by omega) h3]
      have : rwf aa A t = rwf (va_up aa (4 * (n + 1)) q) B t := by
        funext k
        unfold rwf
        by_cases y : k < 30
        · rw [if_pos y, if_pos y, er 6 (by decide), adr_up (four _ (a3 t (by omega) h3 k y))]
        · rw [if_neg y, if_neg y]
      simp only [rwc, this, e 5 t (by decide) z]
  · by_cases z : t = n + 1
    · subst z; rw [n7] at h3; exact absurd m1 h3
    · rw [e 7 t (by decide) z] at h3
      rw [va_up_ne _ _ (by omega), va_up_ne _ _ (by omega), off (4 * t + 2) (lvb h1 (by omega) h3), off (4 * t + 3) (lvd h1 (by omega) h3), (s6 t h1 (by omega) h3).1, (s6 t h1 (by omega) h3).2]
      refine ⟨by simp only [cbc, e 7 t (by decide) z, e 8 t (by decide) z, va_up_ne aa q (show 4 * t + 3 ≠ 4 * (n + 1) by omega)], congrArg some (clf_of (e 7 t (by decide) z) (e 8 t (by decide) z) (fun k => by rw [er 9 (by decide)]))⟩
  · have back : ∀ c, lvc B (n + 1) c → c ≠ 4 * (n + 1) → lvc A n c := by
      intro c hc hne
      rcases hc with y | ⟨t, h1, h2, y | ⟨y, z⟩ | ⟨y, z⟩⟩
      · exact Or.inl y
      · exact Or.inr ⟨t, h1, by omega, Or.inl y⟩
      · have w : t ≠ n + 1 := by rintro rfl; rw [n5] at z; exact z m1
        rw [e 5 t (by decide) w] at z
        exact Or.inr ⟨t, h1, by omega, Or.inr (Or.inl ⟨y, z⟩)⟩
      · have w : t ≠ n + 1 := by rintro rfl; rw [n7] at z; exact z m1
        rw [e 7 t (by decide) w] at z
        exact Or.inr ⟨t, h1, by omega, Or.inr (Or.inr ⟨y, z⟩)⟩
    intro c d hc hd hcd
    by_cases y : c = 4 * (n + 1)
    · by_cases z : d = 4 * (n + 1)
      · omega
      · rw [y, va_up_self, va_up_ne _ _ z] at hcd
        exact absurd hcd.symm (hne d (back d hd z))
    · by_cases z : d = 4 * (n + 1)
      · rw [z, va_up_self, va_up_ne _ _ y] at hcd
        exact absurd hcd (hne c (back c hc y))
      · rw [va_up_ne _ _ y, va_up_ne _ _ z] at hcd
        exact s7 c d (back c hc y) (back d hd z) hcd
