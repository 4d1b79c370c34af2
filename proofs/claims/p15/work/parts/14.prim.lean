theorem wf_of {A B : gA} {n : Nat} (h : wf A n) (e : ∀ k ∈ [0, 1, 5, 6, 7, 8, 10, 11, 12], B k = A k) : wf B n := by
  unfold wf
  rw [e 0 (by decide), e 1 (by decide), e 5 (by decide), e 6 (by decide), e 7 (by decide), e 8 (by decide), e 10 (by decide), e 11 (by decide), e 12 (by decide)]
  exact h
theorem fit_of {A B : gA} (e : B 2 = A 2) (w lo hi : Int32) : fit B w lo hi = fit A w lo hi := by unfold fit; rw [e]
theorem wfc_of {A B : gA} {n : Nat} (h : wfc A n) (e : ∀ k ∈ [2, 5, 6, 10, 11, 12], B k = A k) : wfc B n := by
  have f := fit_of (e 2 (by decide))
  unfold wfc
  rw [e 2 (by decide), e 5 (by decide), e 6 (by decide), e 10 (by decide), e 11 (by decide), e 12 (by decide)]
  simp only [f]
  exact h
theorem thf_of {aa : Nat → Nat} {A B : gA} {t : Nat} (e : ∀ k ∈ [2, 3, 4, 5, 7, 10, 11, 12], B k t = A k t) : thc aa A t = thc aa B t := by
  unfold thc thf hvf rwo cbo
  rw [e 2 (by decide), e 3 (by decide), e 4 (by decide), e 5 (by decide), e 7 (by decide), e 10 (by decide), e 11 (by decide), e 12 (by decide)]
theorem sc_of {E : gE} {aa : Nat → Nat} {A B : gA} (e : ∀ k, k < 16 → B 0 k = A 0 k) : sc E aa A = sc E aa B := by
  have : shf aa A = shf aa B := by
    funext k
    unfold shf
    by_cases h : k < 16
    · rw [if_pos h, if_pos h, e k h]
    · rw [if_neg h, if_neg h]
  simp only [sc, this]
theorem rwf_of {E : gE} {aa : Nat → Nat} {A B : gA} {t : Nat} (e5 : B 5 t = A 5 t) (e6 : ∀ k, k < 30 → B 6 (30 * t + k) = A 6 (30 * t + k)) : rwc E aa A t = rwc E aa B t := by
  unfold rwc
  rw [e5]
  have : rwf aa A t = rwf aa B t := by
    funext k
    unfold rwf
    by_cases h : k < 30
    · rw [if_pos h, if_pos h, e6 k h]
    · rw [if_neg h, if_neg h]
  rw [this]
theorem clf_of {E : gE} {A B : gA} {t : Nat} (e7 : B 7 t = A 7 t) (e8 : B 8 t = A 8 t) (e9 : ∀ i, B 9 i = A 9 i) : clc E A t = clc E B t := by
  unfold clc
  have : clf A t = clf B t := by
    funext k
    unfold clf
    rw [e7, e8]
    simp only [e9]
  rw [this, e7, e8]
theorem SW.p13 {E : gE} {x : Nat} {aa : Nat → Nat} {A : gA} {n : Nat} {G : gG} (hS : SW E x aa A n G) (i : Nat) (v : Int32) : SW E x aa (u2 A 13 i v) n (gu G (aa 2) (.inl (E.2.1, 7, .inl (upd (A 13) i v)))) := by
  have e : ∀ k, k ≠ 13 → u2 A 13 i v k = A k := fun k h => u2_ne h
  refine ⟨wf_of hS.1 (fun k hk => e k (by rintro rfl; revert hk; decide)), wfc_of hS.2.1 (fun k hk => e k (by rintro rfl; revert hk; decide)), hS.2.2.set 2 _ (lv2 A n) (fun t h => by rw [e 5 (by decide)]; exact h) (fun t h => by rw [e 7 (by decide)]; exact h) ?_ ?_ ?_ ?_ ?_ ?_ ?_⟩
  · rw [if_neg (by decide)]; simp only [yc, e 14 (by decide)]
  · rw [if_neg (by decide)]; exact sc_of (fun k _ => by rw [e 0 (by decide)])
  · rw [if_pos rfl]; simp only [rc, u2_row]
  · intro t h1 h2; rw [if_neg (by omega)]; exact thf_of (fun k hk => by rw [e k (by rintro rfl; revert hk; decide)])
  · intro t h1 h2 h3; rw [if_neg (by omega)]; exact rwf_of (by rw [e 5 (by decide)]) (fun k _ => by rw [e 6 (by decide)])
  · intro t h1 h2 h3; rw [if_neg (by omega)]; simp only [cbc, e 7 (by decide), e 8 (by decide)]
  · intro t h1 h2 h3; rw [if_neg (by omega)]; exact clf_of (by rw [e 7 (by decide)]) (by rw [e 8 (by decide)]) (fun k => by rw [e 9 (by decide)])
theorem SW.p14 {E : gE} {x : Nat} {aa : Nat → Nat} {A : gA} {n : Nat} {G : gG} (hS : SW E x aa A n G) (v : Int32) : SW E x aa (u2 A 14 0 v) n (gu G (aa 0) (.inr (8, [.ref (aa 1), .ref (aa 2), .int v]))) := by
  have e : ∀ k, k ≠ 14 → u2 A 14 0 v k = A k := fun k h => u2_ne h
  refine ⟨wf_of hS.1 (fun k hk => e k (by rintro rfl; revert hk; decide)), wfc_of hS.2.1 (fun k hk => e k (by rintro rfl; revert hk; decide)), hS.2.2.set 0 _ (lv0 A n) (fun t h => by rw [e 5 (by decide)]; exact h) (fun t h => by rw [e 7 (by decide)]; exact h) ?_ ?_ ?_ ?_ ?_ ?_ ?_⟩
  · rw [if_pos rfl]; simp [yc, u2]
  · rw [if_neg (by decide)]; exact sc_of (fun k _ => by rw [e 0 (by decide)])
  · rw [if_neg (by decide)]; simp only [rc, e 13 (by decide)]
  · intro t h1 h2; rw [if_neg (by omega)]; exact thf_of (fun k hk => by rw [e k (by rintro rfl; revert hk; decide)])
  · intro t h1 h2 h3; rw [if_neg (by omega)]; exact rwf_of (by rw [e 5 (by decide)]) (fun k _ => by rw [e 6 (by decide)])
  · intro t h1 h2 h3; rw [if_neg (by omega)]; simp only [cbc, e 7 (by decide), e 8 (by decide)]
  · intro t h1 h2 h3; rw [if_neg (by omega)]; exact clf_of (by rw [e 7 (by decide)]) (by rw [e 8 (by decide)]) (fun k => by rw [e 9 (by decide)])
theorem u2_at {A : gA} {k i j : Nat} {v : Int32} (h : j ≠ i) : u2 A k i v k j = A k j := by simp [u2, h]
theorem u2_hit (A : gA) (k i : Nat) (v : Int32) : u2 A k i v k i = v := by simp [u2]
theorem SW.p0 {E : gE} {x : Nat} {aa : Nat → Nat} {A : gA} {n : Nat} {G : gG} (hS : SW E x aa A n G) (i : Nat) (hi : i < 16) {w : Int32} (hw : tv n w) : SW E x aa (u2 A 0 i w) n (gu G (aa 1) (.inl (E.2.2.1, 16, .inr (.inr (.inr (.inr (va_up (shf aa A) i (adr aa w)))))))) := by
  have e : ∀ k, k ≠ 0 → u2 A 0 i w k = A k := fun k h => u2_ne h
  refine ⟨?_, wfc_of hS.2.1 (fun k hk => e k (by rintro rfl; revert hk; decide)), hS.2.2.set 1 _ (lv1 A n) (fun t h => by rw [e 5 (by decide)]; exact h) (fun t h => by rw [e 7 (by decide)]; exact h) ?_ ?_ ?_ ?_ ?_ ?_ ?_⟩
  · obtain ⟨a1, a2, a3⟩ := hS.1
    unfold wf
    rw [e 1 (by decide), e 5 (by decide), e 6 (by decide), e 7 (by decide), e 8 (by decide), e 10 (by decide), e 11 (by decide), e 12 (by decide)]
    refine ⟨a1, fun k hk => ?_, a3⟩
    by_cases q : k = i
    · subst q; rw [u2_hit]; exact hw
    · rw [u2_at q]; exact a2 k hk
  · rw [if_neg (by decide)]; simp only [yc, e 14 (by decide)]
  · rw [if_pos rfl]
    have : va_up (shf aa A) i (adr aa w) = shf aa (u2 A 0 i w) := by
      funext k
      unfold shf va_up
      by_cases q : k = i
      · subst q; rw [if_pos rfl, if_pos hi, u2_hit]
      · rw [if_neg q, u2_at q]
    simp only [sc, this]
  · rw [if_neg (by decide)]; simp only [rc, e 13 (by decide)]
  · intro t h1 h2; rw [if_neg (by omega)]; exact thf_of (fun k hk => by rw [e k (by rintro rfl; revert hk; decide)])
  · intro t h1 h2 h3; rw [if_neg (by omega)]; exact rwf_of (by rw [e 5 (by decide)]) (fun k _ => by rw [e 6 (by decide)])
  · intro t h1 h2 h3; rw [if_neg (by omega)]; simp only [cbc, e 7 (by decide), e 8 (by decide)]
  · intro t h1 h2 h3; rw [if_neg (by omega)]; exact clf_of (by rw [e 7 (by decide)]) (by rw [e 8 (by decide)]) (fun k => by rw [e 9 (by decide)])
theorem SW.p34 {E : gE} {x : Nat} {aa : Nat → Nat} {A : gA} {n : Nat} {G : gG} (hS : SW E x aa A n G) (r : Nat) (hr : r = 3 ∨ r = 4) (t0 : Nat) (h10 : 1 ≤ t0) (h20 : t0 ≤ n) (v : Int32) {y : va_E} (hy : y = thc aa (u2 A r t0 v) t0) : SW E x aa (u2 A r t0 v) n (gu G (aa (4 * t0)) y) := by
  have e : ∀ k, k ≠ 3 → k ≠ 4 → u2 A r t0 v k = A k := fun k h1 h2 => u2_ne (by rcases hr with rfl | rfl <;> assumption)
  refine ⟨wf_of hS.1 (fun k hk => e k (by rintro rfl; revert hk; decide) (by rintro rfl; revert hk; decide)), wfc_of hS.2.1 (fun k hk => e k (by rintro rfl; revert hk; decide) (by rintro rfl; revert hk; decide)), hS.2.2.set (4 * t0) _ (lvt h10 h20) (fun t h => by rw [e 5 (by decide) (by decide)]; exact h) (fun t h => by rw [e 7 (by decide) (by decide)]; exact h) ?_ ?_ ?_ ?_ ?_ ?_ ?_⟩
  · rw [if_neg (by omega)]; simp only [yc, e 14 (by decide) (by decide)]
  · rw [if_neg (by omega)]; exact sc_of (fun k _ => by rw [e 0 (by decide) (by decide)])
  · rw [if_neg (by omega)]; simp only [rc, e 13 (by decide) (by decide)]
  · intro t h1 h2
    by_cases q : t0 = t
    · subst q; rw [if_pos rfl]; exact hy
    · rw [if_neg (by omega)]
      refine thf_of (fun k hk => ?_)
      by_cases z : k = r
      · subst z; rw [u2_at (fun z => q z.symm)]
      · rw [u2_ne z]
  · intro t h1 h2 h3; rw [if_neg (by omega)]; exact rwf_of (by rw [e 5 (by decide) (by decide)]) (fun k _ => by rw [e 6 (by decide) (by decide)])
  · intro t h1 h2 h3; rw [if_neg (by omega)]; simp only [cbc, e 7 (by decide) (by decide), e 8 (by decide) (by decide)]
  · intro t h1 h2 h3; rw [if_neg (by omega)]; exact clf_of (by rw [e 7 (by decide) (by decide)]) (by rw [e 8 (by decide) (by decide)]) (fun k => by rw [e 9 (by decide) (by decide)])
theorem SW.p6 {E : gE} {x : Nat} {aa : Nat → Nat} {A : gA} {n : Nat} {G : gG} (hS : SW E x aa A n G) (h i : Nat) (h10 : 1 ≤ h) (h20 : h ≤ n) (hi : i < 30) (h5 : ¬ A 5 h < 0) {w : Int32} (hw : tv n w) (hf : fit A w 0 1 = true) (hf7 : eqb (A 2 h) 7 = true → fit A w 1 1 = true) : SW E x aa (u2 A 6 (30 * h + i) w) n (gu G (aa (4 * h + 1)) (.inl (E.2.2.2, ix (A 5 h), .inr (.inr (.inr (.inr (va_up (rwf aa A h) i (adr aa w)))))))) := by
  have e : ∀ k, k ≠ 6 → u2 A 6 (30 * h + i) w k = A k := fun k h => u2_ne h
  have f := fit_of (e 2 (by decide))
  refine ⟨?_, ?_, hS.2.2.set (4 * h + 1) _ (lvr h10 h20 h5) (fun t h => by rw [e 5 (by decide)]; exact h) (fun t h => by rw [e 7 (by decide)]; exact h) ?_ ?_ ?_ ?_ ?_ ?_ ?_⟩
  · obtain ⟨a1, a2, a3, a4⟩ := hS.1
    unfold wf
    rw [e 0 (by decide), e 1 (by decide), e 5 (by decide), e 7 (by decide), e 8 (by decide), e 10 (by decide), e 11 (by decide), e 12 (by decide)]
    refine ⟨a1, a2, fun t ht h5t k hk => ?_, a4⟩
    by_cases q : 30 * t + k = 30 * h + i
    · rw [q, u2_hit]; exact hw
    · rw [u2_at q]; exact a3 t ht h5t k hk
  · obtain ⟨a1, a2, a3, a4⟩ := hS.2.1
    unfold wfc
    rw [e 2 (by decide), e 5 (by decide), e 10 (by decide), e 11 (by decide), e 12 (by decide)]
    simp only [f]
    refine ⟨a1, fun t h1 h2 h5t k hk => ?_, a3, fun t h1 h2 h5t k hk h7 => ?_⟩
    · by_cases q : 30 * t + k = 30 * h + i
      · rw [q, u2_hit]; exact hf
      · rw [u2_at q]; exact a2 t h1 h2 h5t k hk
    · by_cases q : 30 * t + k = 30 * h + i
      · rw [q, u2_hit]
        have : t = h := by omega
        subst this
        exact hf7 h7
      · rw [u2_at q]; exact a4 t h1 h2 h5t k hk h7
  · rw [if_neg (by omega)]; simp only [yc, e 14 (by decide)]
  · rw [if_neg (by omega)]; exact sc_of (fun k _ => by rw [e 0 (by decide)])
  · rw [if_neg (by omega)]; simp only [rc, e 13 (by decide)]
  · intro t h1 h2; rw [if_neg (by omega)]; exact thf_of (fun k hk => by rw [e k (by rintro rfl; revert hk; decide)])
  · intro t h1 h2 h3
    by_cases q : h = t
    · subst q
      rw [if_pos rfl]
      have : va_up (rwf aa A h) i (adr aa w) = rwf aa (u2 A 6 (30 * h + i) w) h := by
        funext k
        unfold rwf va_up
        by_cases z : k = i
        · subst z; rw [if_pos rfl, if_pos hi, u2_hit]
        · rw [if_neg z, u2_at (by omega)]
      simp only [rwc, this, e 5 (by decide)]
    · rw [if_neg (by omega)]; exact rwf_of (by rw [e 5 (by decide)]) (fun k _ => by rw [u2_at (by omega)])
  · intro t h1 h2 h3; rw [if_neg (by omega)]; simp only [cbc, e 7 (by decide), e 8 (by decide)]
  · intro t h1 h2 h3; rw [if_neg (by omega)]; exact clf_of (by rw [e 7 (by decide)]) (by rw [e 8 (by decide)]) (fun k => by rw [e 9 (by decide)])
theorem SW.p10 {E : gE} {x : Nat} {aa : Nat → Nat} {A : gA} {n : Nat} {G : gG} (hS : SW E x aa A n G) (r : Nat) (hr : r = 10 ∨ r = 11 ∨ r = 12) (h : Nat) (h10 : 1 ≤ h) (h20 : h ≤ n) {w : Int32} (hw : tv n w) (hf : fit A w (if r = 10 then 2 else if r = 11 then 3 else 5) (if r = 10 then 2 else if r = 11 then 4 else 5) = true) {y : va_E} (hy : y = thc aa (u2 A r h w) h) : SW E x aa (u2 A r h w) n (gu G (aa (4 * h)) y) := by
  have e : ∀ k, k ≠ 10 → k ≠ 11 → k ≠ 12 → u2 A r h w k = A k := fun k h1 h2 h3 => u2_ne (by rcases hr with rfl | rfl | rfl <;> assumption)
  have f := fit_of (e 2 (by decide) (by decide) (by decide))
  refine ⟨?_, ?_, hS.2.2.set (4 * h) _ (lvt h10 h20) (fun t h => by rw [e 5 (by decide) (by decide) (by decide)]; exact h) (fun t h => by rw [e 7 (by decide) (by decide) (by decide)]; exact h) ?_ ?_ ?_ ?_ ?_ ?_ ?_⟩
  · obtain ⟨a1, a2, a3, a4, a5, a6, a7, a8, a9⟩ := hS.1
    unfold wf
    rw [e 0 (by decide) (by decide) (by decide), e 1 (by decide) (by decide) (by decide), e 5 (by decide) (by decide) (by decide), e 6 (by decide) (by decide) (by decide), e 7 (by decide) (by decide) (by decide), e 8 (by decide) (by decide) (by decide)]
    have key : ∀ k, (∀ t, t ≤ n → ∃ u, u ≤ n ∧ A k t = nI u) → ∀ t, t ≤ n → ∃ u, u ≤ n ∧ u2 A r h w k t = nI u := by
      intro k hk t ht
      by_cases q : k = r
      · subst q
        by_cases z : t = h
        · subst z; rw [u2_hit]; exact hw
        · rw [u2_at z]; exact hk t ht
      · rw [u2_ne q]; exact hk t ht
    exact ⟨a1, a2, a3, a4, key 10 a5, key 11 a6, key 12 a7, a8, a9⟩
  · obtain ⟨a1, a2, a3, a4⟩ := hS.2.1
    unfold wfc
    rw [e 2 (by decide) (by decide) (by decide), e 5 (by decide) (by decide) (by decide), e 6 (by decide) (by decide) (by decide)]
    simp only [f]
    refine ⟨a1, a2, fun t h1 h2 => ?_, a4⟩
    obtain ⟨b1, b2, b3⟩ := a3 t h1 h2
    by_cases z : t = h
    · subst z
      rcases hr with rfl | rfl | rfl
      · rw [u2_hit, u2_ne (by decide), u2_ne (by decide)]; exact ⟨hf, b2, b3⟩
      · rw [u2_hit, u2_ne (by decide), u2_ne (by decide)]; exact ⟨b1, hf, b3⟩
      · rw [u2_hit, u2_ne (by decide), u2_ne (by decide)]; exact ⟨b1, b2, hf⟩
    · have q : ∀ k, u2 A r h w k t = A k t := fun k => by
        by_cases z2 : k = r
        · subst z2; exact u2_at z
        · rw [u2_ne z2]
      rw [q, q, q]
      exact ⟨b1, b2, b3⟩
  · rw [if_neg (by omega)]; simp only [yc, e 14 (by decide) (by decide) (by decide)]
  · rw [if_neg (by omega)]; exact sc_of (fun k _ => by rw [e 0 (by decide) (by decide) (by decide)])
  · rw [if_neg (by omega)]; simp only [rc, e 13 (by decide) (by decide) (by decide)]
  · intro t h1 h2
    by_cases q : h = t
    · subst q; rw [if_pos rfl]; exact hy
    · rw [if_neg (by omega)]
      refine thf_of (fun k hk => ?_)
      by_cases z : k = r
      · subst z; rw [u2_at (fun z => q z.symm)]
      · rw [u2_ne z]
  · intro t h1 h2 h3; rw [if_neg (by omega)]; exact rwf_of (by rw [e 5 (by decide) (by decide) (by decide)]) (fun k _ => by rw [e 6 (by decide) (by decide) (by decide)])
  · intro t h1 h2 h3; rw [if_neg (by omega)]; simp only [cbc, e 7 (by decide) (by decide) (by decide), e 8 (by decide) (by decide) (by decide)]
  · intro t h1 h2 h3; rw [if_neg (by omega)]; exact clf_of (by rw [e 7 (by decide) (by decide) (by decide)]) (by rw [e 8 (by decide) (by decide) (by decide)]) (fun k => by rw [e 9 (by decide) (by decide) (by decide)])
theorem SW.p5 {E : gE} {x : Nat} {aa : Nat → Nat} {A : gA} {n : Nat} {G : gG} (hS : SW E x aa A n G) (h : Nat) (h10 : 1 ≤ h) (h20 : h ≤ n) {y : va_E} (hy : y = thc aa (u2 A 5 h (-1)) h) : SW E x aa (u2 A 5 h (-1)) n (gu G (aa (4 * h)) y) := by
  have e : ∀ k, k ≠ 5 → u2 A 5 h (-1) k = A k := fun k h => u2_ne h
  have m1 : ((-1 : Int32) < 0) := by decide
  refine ⟨?_, ?_, hS.2.2.set (4 * h) _ (lvt h10 h20) (fun t q => ?_) (fun t h => by rw [e 7 (by decide)]; exact h) ?_ ?_ ?_ ?_ ?_ ?_ ?_⟩
  · obtain ⟨a1, a2, a3, a4, a5⟩ := hS.1
    unfold wf
    rw [e 0 (by decide), e 1 (by decide), e 6 (by decide), e 7 (by decide), e 8 (by decide), e 10 (by decide), e 11 (by decide), e 12 (by decide)]
    refine ⟨a1, a2, fun t ht h5t => ?_, fun t ht => ?_, a5⟩
    · have q : t ≠ h := fun z => h5t (by subst z; rw [u2_hit]; exact m1)
      rw [u2_at q] at h5t
      exact a3 t ht h5t
    · by_cases q : t = h
      · subst q; rw [u2_hit]; exact Or.inl rfl
      · rw [u2_at q]; exact a4 t ht
  · obtain ⟨a1, a2, a3, a4⟩ := hS.2.1
    unfold wfc
    rw [e 2 (by decide), e 6 (by decide), e 10 (by decide), e 11 (by decide), e 12 (by decide)]
    simp only [fit_of (e 2 (by decide))]
    refine ⟨a1, fun t h1 h2 h5t => ?_, a3, fun t h1 h2 h5t => ?_⟩
    · have q : t ≠ h := fun z => h5t (by subst z; rw [u2_hit]; exact m1)
      rw [u2_at q] at h5t
      exact a2 t h1 h2 h5t
    · have q : t ≠ h := fun z => h5t (by subst z; rw [u2_hit]; exact m1)
      rw [u2_at q] at h5t
      exact a4 t h1 h2 h5t
  · by_cases z : t = h
    · subst z; rw [u2_hit]; exact m1
    · rw [u2_at z]; exact q
  · rw [if_neg (by omega)]; simp only [yc, e 14 (by decide)]
  · rw [if_neg (by omega)]; exact sc_of (fun k _ => by rw [e 0 (by decide)])
  · rw [if_neg (by omega)]; simp only [rc, e 13 (by decide)]
  · intro t h1 h2
    by_cases q : h = t
    · subst q; rw [if_pos rfl]; exact hy
    · rw [if_neg (by omega)]
      refine thf_of (fun k hk => ?_)
      by_cases z : k = 5
      · subst z; rw [u2_at (fun z => q z.symm)]
      · rw [u2_ne z]
  · intro t h1 h2 h3
    rw [if_neg (by omega)]
    have q : t ≠ h := fun z => h3 (by subst z; rw [u2_hit]; exact m1)
    exact rwf_of (by rw [u2_at q]) (fun k _ => by rw [e 6 (by decide)])
  · intro t h1 h2 h3; rw [if_neg (by omega)]; simp only [cbc, e 7 (by decide), e 8 (by decide)]
  · intro t h1 h2 h3; rw [if_neg (by omega)]; exact clf_of (by rw [e 7 (by decide)]) (by rw [e 8 (by decide)]) (fun k => by rw [e 9 (by decide)])
