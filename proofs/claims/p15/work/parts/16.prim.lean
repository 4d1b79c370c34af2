theorem clf_up {A : gA} {t a b : Nat} {v : Int32} (ha : a < ix (A 7 t)) (hb : b < ix (A 8 t)) (h7 : ix (A 7 t) ≤ 12) (h8 : ix (A 8 t) ≤ 12) : upd (clf A t) (a * ix (A 8 t) + b) v = clf (u2 A 9 (144 * t + 12 * a + b) v) t := by
  have e7 : u2 A 9 (144 * t + 12 * a + b) v 7 = A 7 := u2_ne (by decide)
  have e8 : u2 A 9 (144 * t + 12 * a + b) v 8 = A 8 := u2_ne (by decide)
  funext i
  unfold clf
  rw [e7, e8]
  generalize ix (A 7 t) = L at *
  generalize ix (A 8 t) = w at *
  have hw : 0 < w := by omega
  by_cases h : i = a * w + b
  · subst h
    have d1 : (a * w + b) / w = a := by rw [Nat.mul_comm, Nat.mul_add_div hw, Nat.div_eq_of_lt hb]; omega
    have d2 : (a * w + b) % w = b := by rw [Nat.mul_comm, Nat.mul_add_mod, Nat.mod_eq_of_lt hb]
    have d3 : a * w + b < L * w := by
      have : (a + 1) * w ≤ L * w := Nat.mul_le_mul_right w (by omega)
      rw [Nat.add_mul] at this
      omega
    rw [if_pos d3, d1, d2, u2_hit, pk_us]
  · rw [pk_un h]
    by_cases hl : i < L * w
    · rw [if_pos hl, if_pos hl]
      have hm : i % w < w := Nat.mod_lt _ hw
      have hd : w * (i / w) + i % w = i := Nat.div_add_mod i w
      rw [u2_at]
      intro q
      apply h
      have h1 : i / w = a ∧ i % w = b := by omega
      rw [← hd, h1.1, h1.2, Nat.mul_comm]
    · rw [if_neg hl, if_neg hl]
theorem SW.pcl {E : gE} {x : Nat} {aa : Nat → Nat} {A : gA} {n : Nat} {G : gG} (hS : SW E x aa A n G) (t0 a b : Nat) (h10 : 1 ≤ t0) (h20 : t0 ≤ n) (h70 : ¬ A 7 t0 < 0) (ha : a < ix (A 7 t0)) (hb : b < ix (A 8 t0)) (h7 : ix (A 7 t0) ≤ 12) (h8 : ix (A 8 t0) ≤ 12) (v : Int32) : SW E x aa (u2 A 9 (144 * t0 + 12 * a + b) v) n (gu G (aa (4 * t0 + 3)) (.inl (E.2.1, ix (A 7 t0) * ix (A 8 t0), .inl (upd (clf A t0) (a * ix (A 8 t0) + b) v)))) := by
  have e : ∀ k, k ≠ 9 → u2 A 9 (144 * t0 + 12 * a + b) v k = A k := fun k h => u2_ne h
  refine ⟨wf_of hS.1 (fun k hk => e k (by rintro rfl; revert hk; decide)), wfc_of hS.2.1 (fun k hk => e k (by rintro rfl; revert hk; decide)), hS.2.2.set (4 * t0 + 3) _ (lvd h10 h20 h70) (fun t h => by rw [e 5 (by decide)]; exact h) (fun t h => by rw [e 7 (by decide)]; exact h) ?_ ?_ ?_ ?_ ?_ ?_ ?_⟩
  · rw [if_neg (by omega)]; simp only [yc, e 14 (by decide)]
  · rw [if_neg (by omega)]; exact sc_of (fun k _ => by rw [e 0 (by decide)])
  · rw [if_neg (by omega)]; simp only [rc, e 13 (by decide)]
  · intro t h1 h2; rw [if_neg (by omega)]; exact thf_of (fun k hk => by rw [e k (by rintro rfl; revert hk; decide)])
  · intro t h1 h2 h3; rw [if_neg (by omega)]; exact rwf_of (by rw [e 5 (by decide)]) (fun k _ => by rw [e 6 (by decide)])
  · intro t h1 h2 h3; rw [if_neg (by omega)]; simp only [cbc, e 7 (by decide), e 8 (by decide)]
  · intro t h1 h2 h3
    by_cases q : t0 = t
    · subst q; rw [if_pos rfl, clf_up ha hb h7 h8]; simp only [clc, e 7 (by decide), e 8 (by decide)]
    · rw [if_neg (by omega)]
      rw [e 7 (by decide)] at h3
      have : clf A t = clf (u2 A 9 (144 * t0 + 12 * a + b) v) t := by
        funext i
        unfold clf
        rw [e 7 (by decide), e 8 (by decide)]
        by_cases hl : i < ix (A 7 t) * ix (A 8 t)
        · rw [if_pos hl, if_pos hl]
          have hw : 0 < ix (A 8 t) := by
            rcases Nat.eq_zero_or_pos (ix (A 8 t)) with z | z
            · rw [z] at hl; omega
            · exact z
          have hm : i % ix (A 8 t) < ix (A 8 t) := Nat.mod_lt _ hw
          have hd : i / ix (A 8 t) < ix (A 7 t) := Nat.div_lt_of_lt_mul (by rw [Nat.mul_comm]; exact hl)
          obtain ⟨-, -, -, -, -, -, -, a8, a9⟩ := hS.1
          have l7 : ix (A 7 t) ≤ 12 := by
            rcases a8 t h2 with z | ⟨j, hj, z⟩
            · rw [z] at h3; exact absurd (by decide) h3
            · rw [z, ix_nI (by omega)]; exact hj
          have l8 : ix (A 8 t) ≤ 12 := by
            obtain ⟨j, hj, z⟩ := a9 t h2
            rw [z, ix_nI (by omega)]; exact hj
          rw [u2_at (by omega)]
        · rw [if_neg hl, if_neg hl]
      simp only [clc, e 7 (by decide), e 8 (by decide), this]
theorem SW.pcb {E : gE} {x : Nat} {aa : Nat → Nat} {A : gA} {n : Nat} {G G1 : gG} (hS : SW E x aa A n G) (h ja jb q1 q2 : Nat) (h10 : 1 ≤ h) (h20 : h ≤ n) (hja : ja ≤ 12) (hjb : jb ≤ 12) (hq1 : G q1 = none) (hq2 : G q2 = none) (h12 : q1 ≠ q2) (hG : ∀ p, p ≠ q1 → p ≠ q2 → p ≠ aa (4 * h) → G1 p = G p) (hg1 : G1 q1 = some (.inr (2, [.int (nI ja), .int (nI jb), .ref q2]))) (hg2 : G1 q2 = some (.inl (E.2.1, ja * jb, .inl (fun _ => 0))))
    (hg3 : G1 (aa (4 * h)) = some (thc (va_up (va_up aa (4 * h + 2) q1) (4 * h + 3) q2) (z2 (u2 (u2 A 7 h (nI ja)) 8 h (nI jb)) 9 (144 * h) 144) h)) : SW E x (va_up (va_up aa (4 * h + 2) q1) (4 * h + 3) q2) (z2 (u2 (u2 A 7 h (nI ja)) 8 h (nI jb)) 9 (144 * h) 144) n G1 := by
  have e : ∀ k, k ≠ 7 → k ≠ 8 → k ≠ 9 → z2 (u2 (u2 A 7 h (nI ja)) 8 h (nI jb)) 9 (144 * h) 144 k = A k := fun k h1 h2 h3 => by rw [z2_ne h3, u2_ne h2, u2_ne h1]
  have e7 : ∀ t, t ≠ h → z2 (u2 (u2 A 7 h (nI ja)) 8 h (nI jb)) 9 (144 * h) 144 7 t = A 7 t := fun t ht => by rw [z2_ne (by decide), u2_ne (by decide), u2_at ht]
  have e7h : z2 (u2 (u2 A 7 h (nI ja)) 8 h (nI jb)) 9 (144 * h) 144 7 h = nI ja := by rw [z2_ne (by decide), u2_ne (by decide), u2_hit]
  have e8 : ∀ t, t ≠ h → z2 (u2 (u2 A 7 h (nI ja)) 8 h (nI jb)) 9 (144 * h) 144 8 t = A 8 t := fun t ht => by rw [z2_ne (by decide), u2_at ht, u2_ne (by decide)]
  have e8h : z2 (u2 (u2 A 7 h (nI ja)) 8 h (nI jb)) 9 (144 * h) 144 8 h = nI jb := by rw [z2_ne (by decide), u2_hit]
  have e9 : ∀ t k, t ≠ h → k < 144 → z2 (u2 (u2 A 7 h (nI ja)) 8 h (nI jb)) 9 (144 * h) 144 9 (144 * t + k) = A 9 (144 * t + k) := fun t k ht hk => by rw [z2_out (by omega), u2_ne (by decide), u2_ne (by decide)]
  have e9h : ∀ k, k < 144 → z2 (u2 (u2 A 7 h (nI ja)) 8 h (nI jb)) 9 (144 * h) 144 9 (144 * h + k) = 0 := fun k hk => z2_in (by omega) (by omega)
  have f := fit_of (e 2 (by decide) (by decide) (by decide))
  generalize z2 (u2 (u2 A 7 h (nI ja)) 8 h (nI jb)) 9 (144 * h) 144 = B at *
  have bb2 : va_up (va_up aa (4 * h + 2) q1) (4 * h + 3) q2 (4 * h + 2) = q1 := by rw [va_up_ne _ _ (by omega), va_up_self]
  have bb3 : va_up (va_up aa (4 * h + 2) q1) (4 * h + 3) q2 (4 * h + 3) = q2 := va_up_self _ _ _
  have bbo : ∀ c, c ≠ 4 * h + 2 → c ≠ 4 * h + 3 → va_up (va_up aa (4 * h + 2) q1) (4 * h + 3) q2 c = aa c := fun c h1 h2 => by rw [va_up_ne _ _ h2, va_up_ne _ _ h1]
  generalize va_up (va_up aa (4 * h + 2) q1) (4 * h + 3) q2 = bb at *
  have ad : ∀ w, adr bb w = adr aa w := fun w => by unfold adr; rw [bbo _ (by omega) (by omega)]
  have hS0 := hS.2.2
  obtain ⟨s0, s1, s2, s3, s4, s5, s6, s7⟩ := hS.2.2
  obtain ⟨a1, a2, a3, a4, a5, a6, a7, a8, a9⟩ := hS.1
  have hne1 : ∀ c, lvc A n c → aa c ≠ q1 := fun c hc z => hS0.dom hc (by rw [z]; exact hq1)
  have hne2 : ∀ c, lvc A n c → aa c ≠ q2 := fun c hc z => hS0.dom hc (by rw [z]; exact hq2)
  have off : ∀ c, lvc A n c → c ≠ 4 * h → G1 (aa c) = G (aa c) := fun c hc hn => hG _ (hne1 c hc) (hne2 c hc) (fun z => hn (s7 c _ hc (lvt h10 h20) z))
  refine ⟨?_, wfc_of hS.2.1 (fun k hk => e k (by rintro rfl; revert hk; decide) (by rintro rfl; revert hk; decide) (by rintro rfl; revert hk; decide)), ?_, ?_, ?_, ?_, fun t h1 h2 => ?_, fun t h1 h2 h3 => ?_, fun t h1 h2 h3 => ?_, ?_⟩
  · unfold wf
    rw [e 0 (by decide) (by decide) (by decide), e 1 (by decide) (by decide) (by decide), e 5 (by decide) (by decide) (by decide), e 6 (by decide) (by decide) (by decide), e 10 (by decide) (by decide) (by decide), e 11 (by decide) (by decide) (by decide), e 12 (by decide) (by decide) (by decide)]
    refine ⟨a1, a2, a3, a4, a5, a6, a7, fun t ht => ?_, fun t ht => ?_⟩
    · by_cases z : t = h
      · subst z; exact Or.inr ⟨ja, hja, e7h⟩
      · rw [e7 t z]; exact a8 t ht
    · by_cases z : t = h
      · subst z; exact ⟨jb, hjb, e8h⟩
      · rw [e8 t z]; exact a9 t ht
  · rw [bbo 0 (by omega) (by omega)]; exact s0
  · rw [bbo 0 (by omega) (by omega), off 0 (lv0 A n) (by omega), s1]; simp only [yc, e 14 (by decide) (by decide) (by decide), bbo 1 (by omega) (by omega), bbo 2 (by omega) (by omega)]
  · rw [bbo 1 (by omega) (by omega), off 1 (lv1 A n) (by omega), s2]
    have : shf aa A = shf bb B := by
      funext k
      unfold shf
      rw [e 0 (by decide) (by decide) (by decide), ad]
    simp only [sc, this]
  · rw [bbo 2 (by omega) (by omega), off 2 (lv2 A n) (by omega), s3]; simp only [rc, e 13 (by decide) (by decide) (by decide)]
  · rw [bbo (4 * t) (by omega) (by omega)]
    by_cases z : t = h
    · subst z; exact hg3
    · rw [off (4 * t) (lvt h1 h2) (by omega), s4 t h1 h2]
      unfold thc thf hvf rwo cbo
      rw [e 2 (by decide) (by decide) (by decide), e 3 (by decide) (by decide) (by decide), e 4 (by decide) (by decide) (by decide), e 5 (by decide) (by decide) (by decide), e7 t z, e 10 (by decide) (by decide) (by decide), e 11 (by decide) (by decide) (by decide), e 12 (by decide) (by decide) (by decide), ad, ad, ad, bbo (4 * t + 1) (by omega) (by omega), bbo (4 * t + 2) (by omega) (by omega)]
  · rw [e 5 (by decide) (by decide) (by decide)] at h3
    rw [bbo (4 * t + 1) (by omega) (by omega), off (4 * t + 1) (lvr h1 h2 h3) (by omega), s5 t h1 h2 h3]
    have : rwf aa A t = rwf bb B t := by
      funext k
      unfold rwf
      rw [e 6 (by decide) (by decide) (by decide), ad]
    simp only [rwc, this, e 5 (by decide) (by decide) (by decide)]
  · by_cases z : t = h
    · subst z
      rw [bb2, bb3, hg1, hg2]
      have : (fun _ : Nat => (0 : Int32)) = clf B t := by
        funext i
        unfold clf
        rw [e7h, e8h, ix_nI (by omega), ix_nI (by omega)]
        by_cases hl : i < ja * jb
        · rw [if_pos hl]
          have hw : 0 < jb := by
            rcases Nat.eq_zero_or_pos jb with z | z
            · rw [z] at hl; omega
            · exact z
          have hm : i % jb < jb := Nat.mod_lt _ hw
          have hd : i / jb < ja := Nat.div_lt_of_lt_mul (by rw [Nat.mul_comm]; exact hl)
          have := e9h (12 * (i / jb) + i % jb) (by omega)
          rw [← Nat.add_assoc] at this
          exact this.symm
        · rw [if_neg hl]
      refine ⟨by simp only [cbc, e7h, e8h, bb3], by simp only [clc, this, e7h, e8h, ix_nI (show ja < 2 ^ 31 by omega), ix_nI (show jb < 2 ^ 31 by omega)]⟩
    · rw [e7 t z] at h3
      rw [bbo (4 * t + 2) (by omega) (by omega), bbo (4 * t + 3) (by omega) (by omega), off (4 * t + 2) (lvb h1 h2 h3) (by omega), off (4 * t + 3) (lvd h1 h2 h3) (by omega), (s6 t h1 h2 h3).1, (s6 t h1 h2 h3).2]
      have : clf A t = clf B t := by
        funext i
        unfold clf
        rw [e7 t z, e8 t z]
        by_cases hl : i < ix (A 7 t) * ix (A 8 t)
        · rw [if_pos hl, if_pos hl]
          have hw : 0 < ix (A 8 t) := by
            rcases Nat.eq_zero_or_pos (ix (A 8 t)) with z | z
            · rw [z] at hl; omega
            · exact z
          have hm : i % ix (A 8 t) < ix (A 8 t) := Nat.mod_lt _ hw
          have hd : i / ix (A 8 t) < ix (A 7 t) := Nat.div_lt_of_lt_mul (by rw [Nat.mul_comm]; exact hl)
          have l7 : ix (A 7 t) ≤ 12 := by
            rcases a8 t h2 with z | ⟨j, hj, z⟩
            · rw [z] at h3; exact absurd (by decide) h3
            · rw [z, ix_nI (by omega)]; exact hj
          have l8 : ix (A 8 t) ≤ 12 := by
            obtain ⟨j, hj, z⟩ := a9 t h2
            rw [z, ix_nI (by omega)]; exact hj
          have := e9 t (12 * (i / ix (A 8 t)) + i % ix (A 8 t)) z (by omega)
          rw [← Nat.add_assoc] at this
          exact this.symm
        · rw [if_neg hl, if_neg hl]
      refine ⟨by simp only [cbc, e7 t z, e8 t z, bbo (4 * t + 3) (by omega) (by omega)], by simp only [clc, this, e7 t z, e8 t z]⟩
  · have back : ∀ c, lvc B n c → c ≠ 4 * h + 2 → c ≠ 4 * h + 3 → lvc A n c := by
      intro c hc hn2 hn3
      rcases hc with y | ⟨t, h1, h2, y | ⟨y, z⟩ | ⟨y, z⟩⟩
      · exact Or.inl y
      · exact Or.inr ⟨t, h1, h2, Or.inl y⟩
      · rw [e 5 (by decide) (by decide) (by decide)] at z
        exact Or.inr ⟨t, h1, h2, Or.inr (Or.inl ⟨y, z⟩)⟩
      · have : t ≠ h := by rintro rfl; rcases y with y | y; exact hn2 y; exact hn3 y
        rw [e7 t this] at z
        exact Or.inr ⟨t, h1, h2, Or.inr (Or.inr ⟨y, z⟩)⟩
    have val : ∀ c, lvc B n c → (c = 4 * h + 2 ∧ bb c = q1) ∨ (c = 4 * h + 3 ∧ bb c = q2) ∨ (lvc A n c ∧ bb c = aa c) := by
      intro c hc
      by_cases y : c = 4 * h + 2
      · subst y; exact Or.inl ⟨rfl, bb2⟩
      · by_cases z : c = 4 * h + 3
        · subst z; exact Or.inr (Or.inl ⟨rfl, bb3⟩)
        · exact Or.inr (Or.inr ⟨back c hc y z, bbo c y z⟩)
    intro c d hc hd hcd
    rcases val c hc with ⟨u1, u2'⟩ | ⟨u1, u2'⟩ | ⟨u1, u2'⟩ <;> rcases val d hd with ⟨w1, w2⟩ | ⟨w1, w2⟩ | ⟨w1, w2⟩ <;> rw [u2', w2] at hcd
    · omega
    · exact absurd hcd h12
    · exact absurd hcd.symm (hne1 d w1)
    · exact absurd hcd.symm h12
    · omega
    · exact absurd hcd.symm (hne2 d w1)
    · exact absurd hcd (hne1 c u1)
    · exact absurd hcd (hne2 c u1)
    · exact s7 c d u1 w1 hcd
