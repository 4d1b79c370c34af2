def wf (A : gA) (n : Nat) : Prop := A 1 0 = nI n ∧ (∀ k, k < 16 → ∃ t, t ≤ n ∧ A 0 k = nI t) ∧ (∀ h, h ≤ n → ¬ A 5 h < 0 → ∀ k, k < 30 → ∃ t, t ≤ n ∧ A 6 (30 * h + k) = nI t) ∧ (∀ h, h ≤ n → A 5 h = -1 ∨ ∃ j, j ≤ 30 ∧ A 5 h = nI j) ∧ (∀ h, h ≤ n → ∃ t, t ≤ n ∧ A 10 h = nI t) ∧ (∀ h, h ≤ n → ∃ t, t ≤ n ∧ A 11 h = nI t) ∧ (∀ h, h ≤ n → ∃ t, t ≤ n ∧ A 12 h = nI t) ∧ (∀ h, h ≤ n → A 7 h = -1 ∨ ∃ j, j ≤ 12 ∧ A 7 h = nI j) ∧ (∀ h, h ≤ n → ∃ j, j ≤ 12 ∧ A 8 h = nI j)
def wfb (A : gA) (n : Nat) : Prop := wf A n ∧ n < 600
theorem ix_nI {n : Nat} (h : n < 2 ^ 31) : ix (nI n) = n := nI_clamp h
theorem wfb.shx {A : gA} {n : Nat} (hw : wfb A n) {s : Int32} (h : vp_in s 16) : ∃ t, t ≤ n ∧ A 0 (ix s) = nI t := by
  obtain ⟨k, hk, rfl⟩ := vp_in_of h (by decide)
  rw [ix_nI (by omega)]
  exact hw.1.2.1 k hk
theorem wfb.sh {A : gA} {n : Nat} (hw : wfb A n) {s : Int32} (h : vp_in s 16) : vp_in (A 0 (ix s)) 700 := by
  obtain ⟨t, ht, e⟩ := hw.shx h
  rw [e]
  have := hw.2
  exact vp_in_nI (by omega) (by decide)
theorem wfb.nx {A : gA} {n : Nat} (hw : wfb A n) : vp_in (A 1 0 + 1) 700 := by
  rw [hw.1.1, nI_1]
  have := hw.2
  exact vp_in_nI (by omega) (by decide)
theorem wfb.pt {A : gA} {n : Nat} (hw : wfb A n) {s : Int32} (h : vp_in s 16) (k : Nat) (hk : k = 10 ∨ k = 11 ∨ k = 12) : vp_in (A k (ix (A 0 (ix s)))) 700 := by
  obtain ⟨t, ht, e⟩ := hw.shx h
  have hn := hw.2
  rw [e, ix_nI (by omega)]
  obtain ⟨-, -, -, -, h10, h11, h12, -⟩ := hw.1
  rcases hk with rfl | rfl | rfl
  · obtain ⟨u, hu, e⟩ := h10 t ht; rw [e]; exact vp_in_nI (by omega) (by decide)
  · obtain ⟨u, hu, e⟩ := h11 t ht; rw [e]; exact vp_in_nI (by omega) (by decide)
  · obtain ⟨u, hu, e⟩ := h12 t ht; rw [e]; exact vp_in_nI (by omega) (by decide)
theorem inb_lt {i : Int32} {j : Nat} (hj : j ≤ 30) (h : inb i 0 (nI j - 1) = true) : ∃ k, k < j ∧ i = nI k := by
  simp only [inb, Bool.and_eq_true, Bool.not_eq_true', decide_eq_false_iff_not] at h
  cases j with
  | zero =>
    exfalso
    obtain ⟨h1, h2⟩ := h
    rw [Int32.lt_iff_toInt_lt] at h1 h2
    have e1 : (nI 0 - 1).toInt = -1 := by decide
    have e2 : (0 : Int32).toInt = 0 := by decide
    omega
  | succ j =>
    rw [nI_pred] at h
    obtain ⟨h1, h2⟩ := h
    rw [Int32.lt_iff_toInt_lt] at h1 h2
    rw [nI_toInt (by omega)] at h2
    have e2 : (0 : Int32).toInt = 0 := by decide
    refine ⟨i.toInt.toNat, by omega, Int32.toInt_inj.mp ?_⟩
    rw [nI_toInt (by omega)]
    omega
theorem wRw0 {A : gA} {s : Int32} (h : wRw A s = 0) : wHv A s = 0 ∧ ¬ A 5 (ix (A 0 (ix s))) < 0 := by
  unfold wRw at h
  by_cases h1 : eqb (wHv A s) 0 = true
  · rw [if_pos h1] at h
    refine ⟨eqb_i.mp h1, fun q => ?_⟩
    rw [if_pos q] at h
    exact absurd h (by decide)
  · rw [if_neg h1] at h
    exact absurd (eqb_t h) h1
theorem wHv0 {A : gA} {s : Int32} (h : wHv A s = 0) : fit A (A 0 (ix s)) 6 7 = true ∧ ¬ A 0 (ix s) = 0 := by
  unfold wHv at h
  by_cases h1 : fit A (A 0 (ix s)) 6 7 = true
  · rw [if_pos h1] at h
    refine ⟨h1, fun q => ?_⟩
    rw [if_pos (eqb_t q)] at h
    exact absurd h (by decide)
  · rw [if_neg h1] at h
    exact absurd h (by decide)
theorem wSl0 {A : gA} {s i : Int32} (h : wSl A s i = 0) : wRw A s = 0 ∧ inb i 0 (A 5 (ix (A 0 (ix s))) - 1) = true := by
  unfold wSl at h
  by_cases h1 : eqb (wRw A s) 0 = true
  · rw [if_pos h1] at h
    refine ⟨eqb_i.mp h1, ?_⟩
    by_cases h2 : inb i 0 (A 5 (ix (A 0 (ix s))) - 1) = true
    · exact h2
    · rw [if_neg h2] at h
      exact absurd h (by decide)
  · rw [if_neg h1] at h
    exact absurd (eqb_t h) h1
theorem wHv_in {A : gA} {s : Int32} : vp_in (wHv A s) 7 := by
  unfold wHv
  split
  · split <;> exact vp_in_iff.mpr (by decide)
  · exact vp_in_iff.mpr (by decide)
theorem wRw_in {A : gA} {s : Int32} : vp_in (wRw A s) 7 := by
  unfold wRw
  split
  · split <;> exact vp_in_iff.mpr (by decide)
  · exact wHv_in
theorem wSl_in {A : gA} {s i : Int32} : vp_in (wSl A s i) 7 := by
  unfold wSl
  split
  · split <;> exact vp_in_iff.mpr (by decide)
  · exact wRw_in
theorem wfb.sl {A : gA} {n : Nat} (hw : wfb A n) {s i : Int32} (h : vp_in s 16) (h0 : wSl A s i = 0) : ∃ t k j, t ≤ n ∧ A 0 (ix s) = nI t ∧ k < j ∧ j ≤ 30 ∧ i = nI k ∧ A 5 t = nI j ∧ 30 * A 0 (ix s) + i = nI (30 * t + k) := by
  obtain ⟨h1, h2⟩ := wSl0 h0
  obtain ⟨h3, h4⟩ := wRw0 h1
  obtain ⟨t, ht, e⟩ := hw.shx h
  have hn := hw.2
  rw [e, ix_nI (by omega)] at h4 h2
  rcases hw.1.2.2.2.1 t ht with q | ⟨j, hj, q⟩
  · rw [q] at h4
    exact absurd (by decide) h4
  · rw [q] at h2
    obtain ⟨k, hk, rfl⟩ := inb_lt hj h2
    refine ⟨t, k, j, ht, e, hk, hj, rfl, q, ?_⟩
    rw [e]
    have e3 : (30 : Int32) = nI 30 := rfl
    rw [e3, pk_mul, nI_add]
theorem wfb.ri {A : gA} {n : Nat} (hw : wfb A n) {s i : Int32} (h : vp_in s 16) (h0 : wSl A s i = 0) : vp_in (30 * A 0 (ix s) + i) 21000 := by
  obtain ⟨t, k, j, ht, -, hk, hj, -, -, e⟩ := hw.sl h h0
  have hn := hw.2
  rw [e]
  exact vp_in_nI (by omega) (by decide)
theorem wfb.rv {A : gA} {n : Nat} (hw : wfb A n) {s i : Int32} (h : vp_in s 16) (h0 : wSl A s i = 0) : vp_in (A 6 (ix (30 * A 0 (ix s) + i))) 700 := by
  obtain ⟨t, k, j, ht, -, hk, hj, -, e5, e⟩ := hw.sl h h0
  have hn := hw.2
  rw [e, ix_nI (by omega)]
  obtain ⟨u, hu, e⟩ := hw.1.2.2.1 t ht (by rw [e5]; exact nI_pos (by omega)) k (by omega)
  rw [e]
  exact vp_in_nI (by omega) (by decide)
theorem wfb.ci {A : gA} {n : Nat} (hw : wfb A n) {s l c : Int32} (h : vp_in s 16) (h1 : inb l 0 (A 7 (ix (A 0 (ix s))) - 1) = true) (h2 : inb c 0 (A 8 (ix (A 0 (ix s))) - 1) = true) (h3 : ¬ A 7 (ix (A 0 (ix s))) < 0) : ∃ t a b j1 j2, t ≤ n ∧ A 0 (ix s) = nI t ∧ a < j1 ∧ j1 ≤ 12 ∧ b < j2 ∧ j2 ≤ 12 ∧ l = nI a ∧ c = nI b ∧ A 7 t = nI j1 ∧ A 8 t = nI j2 ∧ 144 * A 0 (ix s) + 12 * l + c = nI (144 * t + 12 * a + b) := by
  obtain ⟨t, ht, e⟩ := hw.shx h
  have hn := hw.2
  rw [e, ix_nI (by omega)] at h1 h2 h3
  obtain ⟨-, -, -, -, -, -, -, h7, h8⟩ := hw.1
  rcases h7 t ht with q | ⟨j1, hj1, q1⟩
  · rw [q] at h3
    exact absurd (by decide) h3
  · obtain ⟨j2, hj2, q2⟩ := h8 t ht
    rw [q1] at h1
    rw [q2] at h2
    obtain ⟨a, ha, rfl⟩ := inb_lt (by omega) h1
    obtain ⟨b, hb, rfl⟩ := inb_lt (by omega) h2
    refine ⟨t, a, b, j1, j2, ht, e, ha, hj1, hb, hj2, rfl, rfl, q1, q2, ?_⟩
    rw [e]
    have e3 : (144 : Int32) = nI 144 := rfl
    have e4 : (12 : Int32) = nI 12 := rfl
    rw [e3, e4, pk_mul, pk_mul, nI_add, nI_add]
theorem wfb.cx {A : gA} {n : Nat} (hw : wfb A n) {s l c : Int32} (h : vp_in s 16) (h1 : inb l 0 (A 7 (ix (A 0 (ix s))) - 1) = true) (h2 : inb c 0 (A 8 (ix (A 0 (ix s))) - 1) = true) (h3 : ¬ A 7 (ix (A 0 (ix s))) < 0) : vp_in (144 * A 0 (ix s) + 12 * l + c) 100800 := by
  obtain ⟨t, a, b, j1, j2, ht, -, ha, hj1, hb, hj2, -, -, -, -, e⟩ := hw.ci h h1 h2 h3
  have hn := hw.2
  rw [e]
  exact vp_in_nI (by omega) (by decide)
def sp_set (A : gA) (s so v : Int32) : Int32 × gA := if isSh s = true then (if inb so 0 5 = true then (so, u2 (nthg A so v) 0 (ix s) (A 1 0 + 1)) else (-1, A)) else (-1, A)
def sp_hive (A : gA) (s b n : Int32) : Int32 × gA := if isSh s = true then (if 30 < n then (-1, A) else if n < 0 then rfi A 2 else (n, u2 (nrw (nthg A (if eqb b 0 = true then 6 else 7) 0) (A 1 0 + 1) n) 0 (ix s) (A 1 0 + 1))) else (-1, A)
def sp_share (A : gA) (s f : Int32) : Int32 × gA := if isSh s = true then (if isSh f = true then (if eqb (u2 A 0 (ix s) (A 0 (ix f)) 0 (ix s)) 0 = true then 0 else 1, u2 A 0 (ix s) (A 0 (ix f))) else (-1, A)) else (-1, A)
def sp_clear (A : gA) (s : Int32) : Int32 × gA := if isSh s = true then (if eqb (A 0 (ix s)) 0 = true then 0 else 1, u2 A 0 (ix s) 0) else (-1, A)
def sp_give (A : gA) (s w f : Int32) : Int32 × gA := if isSh s = true then (if inb w 0 2 = true then (if isSh f = true then (if fit A (A 0 (ix s)) 6 7 = true then (if (if eqb w 0 = true then fit A (A 0 (ix f)) 2 2 else if eqb w 1 = true then fit A (A 0 (ix f)) 3 4 else fit A (A 0 (ix f)) 5 5) = true then (if eqb (A 0 (ix s)) 0 = true then rfi A 1 else (if eqb (A 0 (ix f)) 0 = true then 0 else 1, u2 A (if eqb w 0 = true then 10 else if eqb w 1 = true then 11 else 12) (ix (A 0 (ix s))) (A 0 (ix f)))) else rfi A 5) else rfi A 5) else (-1, A)) else (-1, A)) else (-1, A)
def sp_row (A : gA) (s n : Int32) : Int32 × gA := if isSh s = true then (if 30 < n then (-1, A) else if fit A (A 0 (ix s)) 6 7 = true then (if n < 0 then rfi A 2 else if eqb (A 0 (ix s)) 0 = true then rfi A 1 else (n, nrw A (A 0 (ix s)) n)) else rfi A 5) else (-1, A)
def sp_strip (A : gA) (s : Int32) : Int32 × gA := if isSh s = true then (if eqb (wRw A s) 0 = true then (A 5 (ix (A 0 (ix s))), u2 A 5 (ix (A 0 (ix s))) (-1)) else rfi A (wRw A s)) else (-1, A)
def sp_comb (A : gA) (s n k : Int32) : Int32 × gA := if isSh s = true then (if 12 < n then (-1, A) else if 12 < k then (-1, A) else if fit A (A 0 (ix s)) 6 7 = true then (if n < 0 then rfi A 2 else if k < 0 then rfi A 2 else if eqb (A 0 (ix s)) 0 = true then rfi A 1 else (n, z2 (u2 (u2 A 7 (ix (A 0 (ix s))) n) 8 (ix (A 0 (ix s))) k) 9 (144 * ix (A 0 (ix s))) 144)) else rfi A 5) else (-1, A)
def sp_put (A : gA) (s i f : Int32) : Int32 × gA := if isSh s = true then (if isSh f = true then (if fit A (A 0 (ix s)) 6 7 = true then (if fit A (A 0 (ix f)) 0 1 = true then (if eqb (wSl A s i) 0 = true then (if eqb (A 2 (ix (A 0 (ix s)))) 7 = true then (if fit A (A 0 (ix f)) 1 1 = true then (if eqb (A 0 (ix f)) 0 = true then 0 else 1, u2 A 6 (ix (30 * A 0 (ix s) + i)) (A 0 (ix f))) else rfi A 4) else (if eqb (A 0 (ix f)) 0 = true then 0 else 1, u2 A 6 (ix (30 * A 0 (ix s) + i)) (A 0 (ix f)))) else rfi A (wSl A s i)) else rfi A 5) else rfi A 5) else (-1, A)) else (-1, A)
def sp_take (A : gA) (s i f : Int32) : Int32 × gA := if isSh s = true then (if isSh f = true then (if eqb (wSl A s i) 0 = true then (if eqb (A 6 (ix (30 * A 0 (ix s) + i))) 0 = true then 0 else 1, u2 (u2 A 6 (ix (30 * A 0 (ix s) + i)) 0) 0 (ix f) (A 6 (ix (30 * A 0 (ix s) + i)))) else rfi A (wSl A s i)) else (-1, A)) else (-1, A)
abbrev LST : Int64 := -9223372036854775808
def sp_honey (A : gA) (s i v : Int32) : Int64 × gA := if isSh s = true then (if eqb (wSl A s i) 0 = true then (if eqb (A 6 (ix (30 * A 0 (ix s) + i))) 0 = true then rfj A 1 else ((u2 A 3 (ix (A 6 (ix (30 * A 0 (ix s) + i)))) (A 3 (ix (A 6 (ix (30 * A 0 (ix s) + i)))) + v) 3 (ix (A 6 (ix (30 * A 0 (ix s) + i))))).toInt64, u2 A 3 (ix (A 6 (ix (30 * A 0 (ix s) + i)))) (A 3 (ix (A 6 (ix (30 * A 0 (ix s) + i)))) + v))) else rfj A (wSl A s i)) else (-9223372036854775808, A)
def ly1 (A : gA) (t q n : Int32) : gA := u2 A 4 (ix t) (A 4 (ix t) + n * A 3 (ix q))
def ly2 (A : gA) (t q n : Int32) : gA := u2 (ly1 A t q n) 4 (ix q) (ly1 A t q n 4 (ix q) + 1)
def sp_lay (A : gA) (s i n : Int32) : Int64 × gA := if isSh s = true then (if eqb (wSl A s i) 0 = true then (if fit A (A 6 (ix (30 * A 0 (ix s) + i))) 1 1 = true then (if eqb (A 10 (ix (A 0 (ix s)))) 0 = true then rfj A 1 else if eqb (A 6 (ix (30 * A 0 (ix s) + i))) 0 = true then rfj A 1 else ((ly2 A (A 6 (ix (30 * A 0 (ix s) + i))) (A 10 (ix (A 0 (ix s)))) n 4 (ix (A 6 (ix (30 * A 0 (ix s) + i))))).toInt64, ly2 A (A 6 (ix (30 * A 0 (ix s) + i))) (A 10 (ix (A 0 (ix s)))) n)) else rfj A 5) else rfj A (wSl A s i)) else (-9223372036854775808, A)
def tdl (A : gA) (h n : Int32) : Nat → Int32 × gA
  | 0 => (0, A)
  | i + 1 => ((tdl A h n i).1 + (if eqb (A 6 (ix (30 * h + nI i))) 0 = true then 0 else 1), u2 (tdl A h n i).2 3 (ix (A 6 (ix (30 * h + nI i)))) ((tdl A h n i).2 3 (ix (A 6 (ix (30 * h + nI i)))) + (if eqb (A 6 (ix (30 * h + nI i))) 0 = true then 0 else n)))
def sp_tended (A : gA) (h n : Int32) : Int32 × gA := if eqb (A 2 (ix (A 11 (ix h)))) 3 = true then (u2 A 3 (ix (A 11 (ix h))) (A 3 (ix (A 11 (ix h))) + n) 3 (ix (A 11 (ix h))), u2 A 3 (ix (A 11 (ix h))) (A 3 (ix (A 11 (ix h))) + n)) else ((tdl A h n (ix (A 5 (ix h)))).1 + (tdl A h n (ix (A 5 (ix h)))).2 3 (ix (A 11 (ix h))), (tdl A h n (ix (A 5 (ix h)))).2)
def sp_tend (A : gA) (s n b : Int32) : Int64 × gA := if isSh s = true then (if eqb (wHv A s) 0 = true then (if eqb (A 11 (ix (A 0 (ix s)))) 0 = true then rfj A 1 else if eqb (A 2 (ix (A 11 (ix (A 0 (ix s)))))) 4 = true then (if A 5 (ix (A 0 (ix s))) < 0 then rfj A 1 else (if eqb b 0 = true then ((sp_tended A (A 0 (ix s)) n).1.toInt64, (sp_tended A (A 0 (ix s)) n).2) else ((sp_tended (sp_tended A (A 0 (ix s)) n).2 (A 0 (ix s)) (sp_tended A (A 0 (ix s)) n).1).1.toInt64, (sp_tended (sp_tended A (A 0 (ix s)) n).2 (A 0 (ix s)) (sp_tended A (A 0 (ix s)) n).1).2))) else (if eqb b 0 = true then ((sp_tended A (A 0 (ix s)) n).1.toInt64, (sp_tended A (A 0 (ix s)) n).2) else ((sp_tended (sp_tended A (A 0 (ix s)) n).2 (A 0 (ix s)) (sp_tended A (A 0 (ix s)) n).1).1.toInt64, (sp_tended (sp_tended A (A 0 (ix s)) n).2 (A 0 (ix s)) (sp_tended A (A 0 (ix s)) n).1).2))) else rfj A (wHv A s)) else (-9223372036854775808, A)
def sp_cell (A : gA) (s l k v : Int32) : Int64 × gA := if isSh s = true then (if eqb (wHv A s) 0 = true then (if A 7 (ix (A 0 (ix s))) < 0 then rfj A 1 else if inb l 0 (A 7 (ix (A 0 (ix s))) - 1) = true then (if inb k 0 (A 8 (ix (A 0 (ix s))) - 1) = true then ((A 9 (ix (144 * A 0 (ix s) + 12 * l + k))).toInt64, u2 A 9 (ix (144 * A 0 (ix s) + 12 * l + k)) v) else rfj A 3) else rfj A 3) else rfj A (wHv A s)) else (-9223372036854775808, A)
def hvl (A : gA) (h v : Int32) : Nat → Int64 × gA
  | 0 => (0, A)
  | i + 1 => if eqb (A 6 (ix (30 * h + nI i))) 0 = true then hvl A h v i else if (hvl A h v i).2 3 (ix (A 6 (ix (30 * h + nI i)))) < v then hvl A h v i else ((hvl A h v i).1 + v.toInt64, u2 (hvl A h v i).2 3 (ix (A 6 (ix (30 * h + nI i)))) ((hvl A h v i).2 3 (ix (A 6 (ix (30 * h + nI i)))) - v))
def sp_harvest (A : gA) (s v : Int32) : Int64 × gA := if isSh s = true then (if v < 1 then (-9223372036854775808, A) else if eqb (wRw A s) 0 = true then hvl A (A 0 (ix s)) v (ix (A 5 (ix (A 0 (ix s))))) else rfj A (wRw A s)) else (-9223372036854775808, A)
def sp_sound (A : gA) (s : Int32) : Int32 × gA := if isSh s = true then (if eqb (wHv A s) 0 = true then (if eqb (A 12 (ix (A 0 (ix s)))) 0 = true then rfi A 1 else rfi (u2 A 14 0 (A 3 (ix (A 12 (ix (A 0 (ix s))))))) 6) else rfi A (wHv A s)) else (-1, A)
def sp_sort (A : gA) (s : Int32) : Int32 × gA := if isSh s = true then (if eqb (A 0 (ix s)) 0 = true then (-2, A) else (A 2 (ix (A 0 (ix s))), A)) else (-1, A)
def tlo (w : Int32) : Int32 := if w < 2 then w else if w < 4 then 2 else if w < 6 then (if eqb w 4 = true then 3 else 5) else 6
def thi (w : Int32) : Int32 := if w < 2 then 1 else if w < 4 then 2 else if w < 6 then (if eqb w 4 = true then 4 else 5) else 7
def tv5 (A : gA) (t w : Int32) : Int64 × gA := if 5 < w then (if eqb w 6 = true then ((A 5 (ix t)).toInt64, A) else ((A 7 (ix t)).toInt64, A)) else if eqb w 1 = true then ((A 4 (ix t)).toInt64, A) else if eqb w 3 = true then ((A 4 (ix t)).toInt64, A) else ((A 3 (ix t)).toInt64, A)
def tv7 (A : gA) (t w : Int32) : Int64 × gA := if eqb w 7 = true then (if A 7 (ix t) < 0 then rfj A 1 else tv5 A t w) else tv5 A t w
def sp_told (A : gA) (s w : Int32) : Int64 × gA := if isSh s = true then (if inb w 0 7 = true then (if fit A (A 0 (ix s)) (tlo w) (thi w) = true then (if eqb (A 0 (ix s)) 0 = true then rfj A 1 else if eqb w 6 = true then (if A 5 (ix (A 0 (ix s))) < 0 then rfj A 1 else tv7 A (A 0 (ix s)) w) else tv7 A (A 0 (ix s)) w) else rfj A 5) else (-9223372036854775808, A)) else (-9223372036854775808, A)
def sp_same (A : gA) (s f : Int32) : Int32 × gA := if isSh s = true then (if isSh f = true then (if eqb (A 0 (ix s)) (A 0 (ix f)) = true then 1 else 0, A) else (-1, A)) else (-1, A)
def sp_count (A : gA) (w : Int32) : Int32 × gA := if inb w 0 7 = true then (if eqb w 7 = true then (A 14 0, A) else (A 13 (ix w), A)) else (-1, A)
theorem cnt_in {w : Int32} (h : inb w 0 7 = true) (h2 : ¬ w = 7) : vp_in w 7 := by
  simp only [inb, Bool.and_eq_true, Bool.not_eq_true', decide_eq_false_iff_not] at h
  rw [vp_in_iff]
  rw [Int32.lt_iff_toInt_lt, Int32.lt_iff_toInt_lt] at h
  have h0 : (0 : Int32).toInt = 0 := by decide
  have h7 : (7 : Int32).toInt = 7 := by decide
  have h3 : w.toInt ≠ 7 := fun q => h2 (Int32.toInt_inj.mp (by rw [h7]; exact q))
  omega
theorem ix30 {h : Int32} (hh : vp_in h 700) {k : Nat} (hk : k < 30) : vp_in (30 * h + nI k) 21000 ∧ ix (30 * h + nI k) = 30 * ix h + k := by
  obtain ⟨t, ht, rfl⟩ := vp_in_of hh (by decide)
  have e3 : (30 : Int32) = nI 30 := rfl
  rw [e3, pk_mul, nI_add]
  exact ⟨vp_in_nI (by omega) (by decide), by rw [ix_nI (by omega), ix_nI (by omega)]⟩
theorem ix144 {h : Int32} (hh : vp_in h 700) {k : Nat} (hk : k < 144) : vp_in (144 * h + nI k) 100800 ∧ ix (144 * h + nI k) = 144 * ix h + k := by
  obtain ⟨t, ht, rfl⟩ := vp_in_of hh (by decide)
  have e3 : (144 : Int32) = nI 144 := rfl
  rw [e3, pk_mul, nI_add]
  exact ⟨vp_in_nI (by omega) (by decide), by rw [ix_nI (by omega), ix_nI (by omega)]⟩
theorem rowlen {x : Int32} (h : x = -1 ∨ ∃ j, j ≤ 30 ∧ x = nI j) : ix x ≤ 30 ∧ ∀ i, i ≤ ix x → (nI i < x ↔ i < ix x) := by
  rcases h with rfl | ⟨j, hj, rfl⟩
  · refine ⟨by decide, fun i hi => ?_⟩
    have e : ix (-1) = 0 := by decide
    rw [e] at hi ⊢
    have : i = 0 := by omega
    subst this
    exact ⟨fun h => absurd h (by decide), fun h => absurd h (by omega)⟩
  · rw [ix_nI (by omega)]
    exact ⟨hj, fun i hi => nI_ltI (by omega) (by omega)⟩
theorem tdl_o {A : gA} {h n : Int32} : ∀ {i : Nat} {x : Int32} {B : gA}, tdl A h n i = (x, B) → ∀ k, k ≠ 3 → B k = A k
  | 0, x, B, e, k, hk => by cases e; rfl
  | i + 1, x, B, e, k, hk => by
    have h1 := tdl_o (A := A) (h := h) (n := n) (i := i) (x := (tdl A h n i).1) (B := (tdl A h n i).2) rfl k hk
    simp only [tdl] at e
    cases e
    rw [u2_ne hk]
    exact h1
theorem hvl_o {A : gA} {h v : Int32} : ∀ {i : Nat} {x : Int64} {B : gA}, hvl A h v i = (x, B) → ∀ k, k ≠ 3 → B k = A k
  | 0, x, B, e, k, hk => by cases e; rfl
  | i + 1, x, B, e, k, hk => by
    have h1 := hvl_o (A := A) (h := h) (v := v) (i := i) (x := (hvl A h v i).1) (B := (hvl A h v i).2) rfl k hk
    simp only [hvl] at e
    split at e
    · rw [← h1, e]
    · split at e
      · rw [← h1, e]
      · cases e
        rw [u2_ne hk]
        exact h1
def rowok (A : gA) (h : Int32) : Prop := vp_in h 700 ∧ vp_in (A 11 (ix h)) 700 ∧ (∀ k, k < ix (A 5 (ix h)) → vp_in (A 6 (ix (30 * h + nI k))) 700) ∧ ix (A 5 (ix h)) ≤ 30 ∧ ∀ i, i ≤ ix (A 5 (ix h)) → (nI i < A 5 (ix h) ↔ i < ix (A 5 (ix h)))
theorem wfb.rowok {A : gA} {n : Nat} (hw : wfb A n) {s : Int32} (hs : vp_in s 16) : rowok A (A 0 (ix s)) := by
  have hn := hw.2
  obtain ⟨t, ht, e⟩ := hw.shx hs
  have hR := rowlen (hw.1.2.2.2.1 t ht)
  refine ⟨hw.sh hs, hw.pt hs 11 (by decide), fun k hk => ?_, ?_⟩
  · rw [e, ix_nI (by omega)] at hk
    rw [(ix30 (hw.sh hs) (by omega)).2, e, ix_nI (by omega)]
    have h5 : ¬ A 5 t < 0 := by
      rcases hw.1.2.2.2.1 t ht with q | ⟨j, hj, q⟩
      · rw [q, show ix (-1) = 0 by decide] at hk
        exact absurd hk (by omega)
      · rw [q]
        exact nI_pos (by omega)
    obtain ⟨u, hu, e2⟩ := hw.1.2.2.1 t ht h5 k (by omega)
    rw [e2]
    exact vp_in_nI (by omega) (by decide)
  · rw [e, ix_nI (by omega)]
    exact hR
theorem rowok.of3 {A B : gA} {h : Int32} (H : rowok A h) (e : ∀ k, k ≠ 3 → B k = A k) : rowok B h := by
  obtain ⟨h1, h2, h3, h4⟩ := H
  refine ⟨h1, by rw [e 11 (by decide)]; exact h2, fun k hk => by rw [e 6 (by decide)]; rw [e 5 (by decide)] at hk; exact h3 k hk, by rw [e 5 (by decide)]; exact h4⟩
theorem tended_o {A : gA} {h n : Int32} (k : Nat) (hk : k ≠ 3) : (sp_tended A h n).2 k = A k := by
  unfold sp_tended
  split
  · exact u2_ne hk
  · exact tdl_o (x := (tdl A h n (ix (A 5 (ix h)))).1) rfl k hk
