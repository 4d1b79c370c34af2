theorem btf (b : Bool) : b = true ∨ b = false := by cases b <;> simp
theorem nIix {y : Int32} (h : ¬ y < 0) : Int32.ofNat (ix y) = y := by
  obtain ⟨j, hj, rfl⟩ := nI_of h
  rw [ix_nI hj]
  rfl
theorem tv.ixle {n : Nat} {w : Int32} (h : tv n w) (hn : n < 600) : ix w ≤ n ∧ w = nI (ix w) := by
  obtain ⟨t, ht, rfl⟩ := h
  rw [ix_nI (by omega)]
  exact ⟨ht, rfl⟩
theorem tv.pos {n : Nat} {w : Int32} (h : tv n w) (hn : n < 600) (h0 : eqb w 0 = false) : 1 ≤ ix w := by
  obtain ⟨t, ht, e⟩ := h
  obtain ⟨h1, h2⟩ := thing_of ht hn e h0
  omega
section SWL
variable {E : gE} {x : Nat} {aa : Nat → Nat} {A : gA} {n : Nat} {G : gG}
theorem SW.tsh (hS : SW E x aa A n G) {s : Int32} (h : isSh s = true) : tv n (A 0 (ix s)) := by
  obtain ⟨k, hk, rfl⟩ := vp_in_of (sh_in h) (by decide)
  rw [ix_nI (by omega)]
  exact hS.1.2.1 k hk
theorem SW.tpt (hS : SW E x aa A n G) (hn : n < 600) {w : Int32} (hw : tv n w) (k : Nat) (hk : k = 10 ∨ k = 11 ∨ k = 12) : tv n (A k (ix w)) := by
  obtain ⟨h1, -⟩ := hw.ixle hn
  obtain ⟨-, -, -, -, h10, h11, h12, -⟩ := hS.1
  rcases hk with rfl | rfl | rfl
  · exact h10 _ h1
  · exact h11 _ h1
  · exact h12 _ h1
theorem SW.hv (hS : SW E x aa A n G) (hn : n < 600) {w : Int32} (hw : tv n w) (h0 : eqb w 0 = false) (hf : fit A w 6 7 = true) : G (aa (4 * ix w)) = some (.inr (5, hvf aa A (ix w))) := by
  rw [hS.at hn hw h0, thc_hive (by rw [← fit_so h0]; exact hf) (hS.so hn hw h0)]
theorem SW.rw' (hS : SW E x aa A n G) (hn : n < 600) {w : Int32} (hw : tv n w) (h0 : eqb w 0 = false) (h5 : ¬ A 5 (ix w) < 0) : G (aa (4 * ix w + 1)) = some (rwc E aa A (ix w)) := hS.2.2.2.2.2.2.2.1 _ (hw.pos hn h0) (hw.ixle hn).1 h5
theorem SW.cb (hS : SW E x aa A n G) (hn : n < 600) {w : Int32} (hw : tv n w) (h0 : eqb w 0 = false) (h7 : ¬ A 7 (ix w) < 0) : G (aa (4 * ix w + 2)) = some (cbc aa A (ix w)) := (hS.2.2.2.2.2.2.2.2.1 _ (hw.pos hn h0) (hw.ixle hn).1 h7).1
theorem SW.cd (hS : SW E x aa A n G) (hn : n < 600) {w : Int32} (hw : tv n w) (h0 : eqb w 0 = false) (h7 : ¬ A 7 (ix w) < 0) : G (aa (4 * ix w + 3)) = some (clc E A (ix w)) := (hS.2.2.2.2.2.2.2.2.1 _ (hw.pos hn h0) (hw.ixle hn).1 h7).2
theorem shf_at {s : Int32} (h : isSh s = true) : shf aa A (ix s) = adr aa (A 0 (ix s)) := by
  obtain ⟨k, hk, rfl⟩ := vp_in_of (sh_in h) (by decide)
  rw [ix_nI (by omega)]
  unfold shf
  rw [if_pos hk]
theorem rwo_n {t : Nat} (h : A 5 t < 0) : rwo aa A t = none := if_pos h
theorem rwo_s {t : Nat} (h : ¬ A 5 t < 0) : rwo aa A t = some (aa (4 * t + 1)) := if_neg h
theorem cbo_n {t : Nat} (h : A 7 t < 0) : cbo aa A t = none := if_pos h
theorem cbo_s {t : Nat} (h : ¬ A 7 t < 0) : cbo aa A t = some (aa (4 * t + 2)) := if_neg h
theorem SW.slot (hS : SW E x aa A n G) (hn : n < 600) {w i : Int32} (hw : tv n w) (h5 : ¬ A 5 (ix w) < 0) (hi : inb i 0 (A 5 (ix w) - 1) = true) : ∃ k j, k < j ∧ j ≤ 30 ∧ i = nI k ∧ A 5 (ix w) = nI j ∧ ix (30 * w + i) = 30 * ix w + k := by
  obtain ⟨h1, h2⟩ := hw.ixle hn
  rcases hS.1.2.2.2.1 _ h1 with q | ⟨j, hj, q⟩
  · rw [q] at h5; exact absurd (by decide) h5
  · rw [q] at hi
    obtain ⟨k, hk, rfl⟩ := inb_lt hj hi
    refine ⟨k, j, hk, hj, rfl, q, ?_⟩
    have hv : vp_in w 700 := by rw [h2]; exact vp_in_nI (by omega) (by decide)
    exact (ix30 hv (by omega)).2
theorem SW.slin (hS : SW E x aa A n G) (hn : n < 600) {w i : Int32} (hw : tv n w) (h5 : ¬ A 5 (ix w) < 0) (hi : inb i 0 (A 5 (ix w) - 1) = true) : vp_in i (ix (A 5 (ix w))) := by
  obtain ⟨k, j, hk, hj, rfl, q, -⟩ := hS.slot hn hw h5 hi
  rw [q, ix_nI (by omega)]
  exact vp_in_nI hk (by omega)
theorem SW.slv (hS : SW E x aa A n G) (hn : n < 600) {w i : Int32} (hw : tv n w) (h5 : ¬ A 5 (ix w) < 0) (hi : inb i 0 (A 5 (ix w) - 1) = true) : rwf aa A (ix w) (ix i) = adr aa (A 6 (ix (30 * w + i))) := by
  obtain ⟨k, j, hk, hj, rfl, q, e⟩ := hS.slot hn hw h5 hi
  rw [e, ix_nI (by omega)]
  unfold rwf
  rw [if_pos (by omega)]
theorem SW.tsl (hS : SW E x aa A n G) (hn : n < 600) {w i : Int32} (hw : tv n w) (h5 : ¬ A 5 (ix w) < 0) (hi : inb i 0 (A 5 (ix w) - 1) = true) : tv n (A 6 (ix (30 * w + i))) := by
  obtain ⟨k, j, hk, hj, rfl, q, e⟩ := hS.slot hn hw h5 hi
  rw [e]
  exact hS.1.2.2.1 _ (hw.ixle hn).1 h5 k (by omega)
theorem SW.fsl (hS : SW E x aa A n G) (hn : n < 600) {w i : Int32} (hw : tv n w) (h0 : eqb w 0 = false) (h5 : ¬ A 5 (ix w) < 0) (hi : inb i 0 (A 5 (ix w) - 1) = true) : fit A (A 6 (ix (30 * w + i))) 0 1 = true := by
  obtain ⟨k, j, hk, hj, rfl, q, e⟩ := hS.slot hn hw h5 hi
  rw [e]
  exact hS.2.1.2.1 _ (hw.pos hn h0) (hw.ixle hn).1 h5 k (by omega)
theorem SW.fpt (hS : SW E x aa A n G) (hn : n < 600) {w : Int32} (hw : tv n w) (h0 : eqb w 0 = false) : fit A (A 10 (ix w)) 2 2 = true ∧ fit A (A 11 (ix w)) 3 4 = true ∧ fit A (A 12 (ix w)) 5 5 = true := hS.2.1.2.2.1 _ (hw.pos hn h0) (hw.ixle hn).1
theorem inb_pt {v k : Int32} (h : inb v k k = true) : eqb v k = true := by
  simp only [inb, Bool.and_eq_true, Bool.not_eq_true', decide_eq_false_iff_not, Int32.lt_iff_toInt_lt] at h
  exact eqb_t (Int32.toInt_inj.mp (by omega))
theorem inb_2 {v k m : Int32} (hk : m.toInt = k.toInt + 1) (h : inb v k m = true) : eqb v k = true ∨ eqb v m = true := by
  simp only [inb, Bool.and_eq_true, Bool.not_eq_true', decide_eq_false_iff_not, Int32.lt_iff_toInt_lt] at h
  by_cases q : v.toInt = k.toInt
  · exact Or.inl (eqb_t (Int32.toInt_inj.mp q))
  · exact Or.inr (eqb_t (Int32.toInt_inj.mp (by omega)))
theorem fit_pt {w k : Int32} (h0 : eqb w 0 = false) (h : fit A w k k = true) : eqb (A 2 (ix w)) k = true := inb_pt (by rw [← fit_so h0]; exact h)
theorem fit_2 {w k m : Int32} (hk : m.toInt = k.toInt + 1) (h0 : eqb w 0 = false) (h : fit A w k m = true) : eqb (A 2 (ix w)) k = true ∨ eqb (A 2 (ix w)) m = true := inb_2 hk (by rw [← fit_so h0]; exact h)
theorem thc_0 {t : Nat} (h : eqb (A 2 t) 0 = true) : thc aa A t = .inr (4, [.int 0, .int (A 3 t)]) := by
  simp only [thc, thf, cix, h, if_true]
theorem thc_1 {t : Nat} (h : eqb (A 2 t) 1 = true) : thc aa A t = .inr (1, [.int (A 3 t), .int 1, .int (A 4 t)]) := by
  have e := eqb_i.mp h
  unfold thc thf cix
  rw [e]
  rfl
theorem thc_2 {t : Nat} (h : eqb (A 2 t) 2 = true) : thc aa A t = .inr (6, [.int 2, .int (A 3 t), .int (A 4 t)]) := by
  have e := eqb_i.mp h
  unfold thc thf cix
  rw [e]
  rfl
theorem thc_3 {t : Nat} (h : eqb (A 2 t) 3 = true) : thc aa A t = .inr (7, [.int (A 3 t), .int 3]) := by
  have e := eqb_i.mp h
  unfold thc thf cix
  rw [e]
  rfl
theorem thc_4 {t : Nat} (h : eqb (A 2 t) 4 = true) : thc aa A t = .inr (3, [.int (A 3 t), .int 4]) := by
  have e := eqb_i.mp h
  unfold thc thf cix
  rw [e]
  rfl
theorem thc_5 {t : Nat} (h : eqb (A 2 t) 5 = true) : thc aa A t = .inr (0, [.int 5, .int (A 3 t)]) := by
  have e := eqb_i.mp h
  unfold thc thf cix
  rw [e]
  rfl
theorem SW.any {s : State} {b0 : Nat} {G0 : gG} {H0 H : Heap} {locs : List Loc} (hS : SW E x aa A n G) (hn : n < 600) (hK : gK E s) (hI : gI E.1 b0 G0 H0 G H locs) {w : Int32} (hw : tv n w) : ∀ v, adr aa w = some v → va_Any RX9 s H v := by
  intro v hv
  rcases btf (eqb w 0) with h0 | h0
  · rw [adr_n h0] at hv; cases hv
  · rw [adr_s h0] at hv
    cases hv
    exact g_any (t := 9) hK hI (hS.at hn hw h0) (cix_in _) (by decide) rfl
theorem SW.anyF {s : State} {b0 : Nat} {G0 : gG} {H0 H : Heap} {locs : List Loc} (hS : SW E x aa A n G) (hn : n < 600) (hK : gK E s) (hI : gI E.1 b0 G0 H0 G H locs) {w : Int32} (hw : tv n w) (hf : fit A w 0 1 = true) : ∀ v, adr aa w = some v → va_Any RX4 s H v := by
  intro v hv
  rcases btf (eqb w 0) with h0 | h0
  · rw [adr_n h0] at hv; cases hv
  · rw [adr_s h0] at hv
    cases hv
    exact g_any (t := 4) hK hI (hS.at hn hw h0) (cix_in _) (by decide) (hS.gs hn hw h0 4 (by decide) hf)
end SWL
theorem lt_05 : (-1 : Int32) < 0 := by decide
theorem eqb_00 : eqb 0 0 = true := by decide
theorem eqb_10 : eqb 1 0 = false := by decide
theorem eqb_20 : eqb 2 0 = false := by decide
theorem eqb_30 : eqb 3 0 = false := by decide
theorem eqb_50 : eqb 5 0 = false := by decide
theorem eqb_11 : eqb 1 1 = true := by decide
theorem eqb_21 : eqb 2 1 = false := by decide
