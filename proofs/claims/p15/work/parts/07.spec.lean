def ix (x : Int32) : Nat := x.toNatClampNeg
abbrev gA : Type := Nat → Nat → Int32
def u2 (A : gA) (k i : Nat) (v : Int32) : gA := fun k1 i1 => if k1 = k ∧ i1 = i then v else A k1 i1
theorem u2_row (A : gA) (k i : Nat) (v : Int32) : u2 A k i v k = upd (A k) i v := by
  funext j
  by_cases h : j = i
  · simp [u2, upd, h]
  · simp [u2, upd, h]
theorem u2_ne {A : gA} {k i j : Nat} {v : Int32} (h : j ≠ k) : u2 A k i v j = A j := by
  funext q
  simp [u2, h]
def eqb (x y : Int32) : Bool := decide (x = y)
theorem eqb_t {x y : Int32} (h : x = y) : eqb x y = true := decide_eq_true h
theorem eqb_f {x y : Int32} (h : ¬ x = y) : eqb x y = false := decide_eq_false h
theorem eqb_i {x y : Int32} : eqb x y = true ↔ x = y := decide_eq_true_iff
def inb (v lo hi : Int32) : Bool := !decide (v < lo) && !decide (hi < v)
def isSh (s : Int32) : Bool := inb s 0 15
def fit (A : gA) (t lo hi : Int32) : Bool := decide (t = 0) || inb (A 2 (ix t)) lo hi
def rfs (A : gA) (k : Int32) : gA := u2 (u2 A 13 0 (A 13 0 + 1)) 13 (ix k) (u2 A 13 0 (A 13 0 + 1) 13 (ix k) + 1)
def rfi (A : gA) (k : Int32) : Int32 × gA := (-10 - k, rfs A k)
def rfj (A : gA) (k : Int32) : Int64 × gA := (-9223372036854775708 + (-10 - k).toInt64, rfs A k)
def wHv (A : gA) (s : Int32) : Int32 := if fit A (A 0 (ix s)) 6 7 = true then (if eqb (A 0 (ix s)) 0 = true then 1 else 0) else 5
def wRw (A : gA) (s : Int32) : Int32 := if eqb (wHv A s) 0 = true then (if A 5 (ix (A 0 (ix s))) < 0 then 1 else 0) else wHv A s
def wSl (A : gA) (s i : Int32) : Int32 := if eqb (wRw A s) 0 = true then (if inb i 0 (A 5 (ix (A 0 (ix s))) - 1) = true then 0 else 3) else wRw A s
def nthg (A : gA) (so v : Int32) : gA := u2 (u2 (u2 (u2 (u2 (u2 (u2 (u2 (u2 (u2 A 1 0 (A 1 0 + 1)) 2 (ix (A 1 0 + 1)) so) 3 (ix (A 1 0 + 1)) v) 4 (ix (A 1 0 + 1)) 0) 5 (ix (A 1 0 + 1)) (-1)) 7 (ix (A 1 0 + 1)) (-1)) 8 (ix (A 1 0 + 1)) 0) 10 (ix (A 1 0 + 1)) 0) 11 (ix (A 1 0 + 1)) 0) 12 (ix (A 1 0 + 1)) 0
def z2 (A : gA) (k j n : Nat) : gA := fun k1 i1 => if k1 = k ∧ j ≤ i1 ∧ i1 < j + n then 0 else A k1 i1
theorem z2_0 (A : gA) (k j : Nat) : z2 A k j 0 = A := by
  funext a b
  simp only [z2]
  rw [if_neg (by omega)]
theorem z2_s (A : gA) (k j n : Nat) : u2 (z2 A k j n) k (j + n) 0 = z2 A k j (n + 1) := by
  funext a b
  simp only [z2, u2]
  by_cases h : a = k ∧ b = j + n
  · rw [if_pos h, if_pos (by omega)]
  · rw [if_neg h]
    by_cases h2 : a = k ∧ j ≤ b ∧ b < j + n
    · rw [if_pos h2, if_pos (by omega)]
    · rw [if_neg h2, if_neg (by omega)]
def nrw (A : gA) (h n : Int32) : gA := z2 (u2 A 5 (ix h) n) 6 (30 * ix h) 30
def lnA (k : Nat) : Nat := match k with
  | 0 => 16
  | 6 => 21000
  | 9 => 100800
  | 13 => 7
  | _ => 700
abbrev mfs (ma : Nat → Nat) (A : gA) : List Value := [.ref (ma 0), .int (A 1 0), .ref (ma 2), .ref (ma 3), .ref (ma 4), .ref (ma 5), .ref (ma 6), .ref (ma 7), .ref (ma 8), .ref (ma 9), .ref (ma 10), .ref (ma 11), .ref (ma 12), .ref (ma 13), .int (A 14 0)]
abbrev mrw : List Nat := [0, 2, 3, 4, 5, 6, 7, 8, 9, 10, 11, 12, 13]
def gMod (E : gE) (mo : Nat) (ma : Nat → Nat) (A : gA) (G : gG) : Prop := G mo = some (.inr (9, mfs ma A)) ∧ (∀ k ∈ mrw, G (ma k) = some (.inl (E.2.1, lnA k, .inl (A k)))) ∧ ∀ j ∈ mrw, ∀ k ∈ mrw, ma j = ma k → j = k
theorem gMod.st {E : gE} {mo : Nat} {ma : Nat → Nat} {A : gA} {G : gG} (h : gMod E mo ma A G) {k : Nat} (hk : k ∈ mrw) (i : Nat) (v : Int32) : gMod E mo ma (u2 A k i v) (gu G (ma k) (.inl (E.2.1, lnA k, .inl (upd (A k) i v)))) := by
  obtain ⟨h1, h2, h3⟩ := h
  have hne : mo ≠ ma k := fun e => by
    have := h2 k hk
    rw [← e, h1] at this
    cases this
  have k1 : (1 : Nat) ≠ k := by intro e; subst e; revert hk; decide
  have k14 : (14 : Nat) ≠ k := by intro e; subst e; revert hk; decide
  refine ⟨?_, fun j hj => ?_, h3⟩
  · rw [gu_n hne, h1]
    simp only [mfs, u2_ne k1, u2_ne k14]
  · by_cases e : j = k
    · subst e; rw [gu_s, u2_row]
    · rw [gu_n (fun q => e (h3 j hj k hk q)), h2 j hj, u2_ne e]
theorem gMod.pf {E : gE} {mo : Nat} {ma : Nat → Nat} {A : gA} {G : gG} (h : gMod E mo ma A G) {k : Nat} (hk : k = 1 ∨ k = 14) (v : Int32) : gMod E mo ma (u2 A k 0 v) (gu G mo (.inr (9, (mfs ma A).set k (.int v)))) := by
  obtain ⟨h1, h2, h3⟩ := h
  refine ⟨?_, fun j hj => ?_, h3⟩
  · rw [gu_s]
    rcases hk with rfl | rfl <;> simp [mfs, u2]
  · have hne : ma j ≠ mo := fun e => by
      have := h2 j hj
      rw [e, h1] at this
      cases this
    have hjk : j ≠ k := by rintro rfl; rcases hk with rfl | rfl <;> revert hj <;> decide
    rw [gu_n hne, h2 j hj, u2_ne hjk]
section XR
variable {p : Program} {l : Launch} {e : Env} {R : Room} {s : State} {m : MethodId} {args : Array Value} {below : List Frame} {meth : Method} {c : Code} {H : Heap} {locs : List Loc} {cells slots : Nat} {Q : State → Prop}
variable {cc : ByteArray} {pc : Nat} {ls : Array Slot} {rest : List Value} {E : gE} {b0 : Nat} {G0 G : gG} {H0 : Heap} {mo : Nat} {ma : Nat → Nat} {A : gA}
theorem x_get (hx : p.tables.exec = Jvm.exec) (hb : c.code = cc) {index : Nat} (hts : ∀ w ∈ wsL_law, w.before args s = true) (hown : s.vm.findClass RX11 = some m.cls) (hK : gK E s) (hI : gI E.1 b0 G0 H0 G H locs) (hM : gMod E mo ma A G) (k : Nat) (hk : k < 15) (hlink : (Cond.fieldLink RX11 index RX11 (TX11 k).2.1 (TX11 k).2.2.1) ∈ wsL_law) {v : Value} (hv : (mfs ma A)[k]? = some v) (hdg : decode cc pc = .ok (.getfield index, 3)) (h1 : (TX11 k).1 = RX11)
    (kk : W p l e R s m args below meth c H locs cells slots Q (F0 m (pc + 3) ls (v :: rest))) : W p l e R s m args below meth c H locs cells slots Q (F0 m pc ls (.ref mo :: rest)) :=
  g_get (ci := 9) hx hb hts inlX11 hown hK hI hM.1 rfl k hk hlink (fun x hx => by rw [h1] at hx; exact hx) hv hdg kk
theorem x_ld (hx : p.tables.exec = Jvm.exec) (hb : c.code = cc) (hK : gK E s) (hI : gI E.1 b0 G0 H0 G H locs) (hM : gMod E mo ma A G) (k : Nat) (hk : k ∈ mrw) {i : Int32} (hin : vp_in i (lnA k)) (hdg : decode cc pc = .ok (.iaload, 1))
    (kk : W p l e R s m args below meth c H locs cells slots Q (F0 m (pc + 1) ls (.int (A k (ix i)) :: rest))) : W p l e R s m args below meth c H locs cells slots Q (F0 m pc ls (.int i :: .ref (ma k) :: rest)) :=
  g_iald hx hb hK hI (hM.2.1 k hk) hin hdg kk
theorem x_st (hx : p.tables.exec = Jvm.exec) (hb : c.code = cc) (hK : gK E s) (hI : gI E.1 b0 G0 H0 G H locs) (hM : gMod E mo ma A G) (k : Nat) (hk : k ∈ mrw) {i x : Int32} (hin : vp_in i (lnA k)) (hdg : decode cc pc = .ok (.iastore, 1))
    (kk : ∀ (G1 : gG) (H1 : Heap) (locs1 : List Loc), gMod E mo ma (u2 A k (ix i) x) G1 → gI E.1 b0 G0 H0 G1 H1 locs1 → W p l e R s m args below meth c H1 locs1 cells slots Q (F0 m (pc + 1) ls rest)) : W p l e R s m args below meth c H locs cells slots Q (F0 m pc ls (.int x :: .int i :: .ref (ma k) :: rest)) :=
  g_iast hx hb hK hI (hM.2.1 k hk) hin hdg (fun H1 locs1 hI1 => kk _ H1 locs1 (hM.st hk (ix i) x) hI1)
theorem x_put (hx : p.tables.exec = Jvm.exec) (hb : c.code = cc) {index : Nat} (hts : ∀ w ∈ wsL_law, w.before args s = true) (hown : s.vm.findClass RX11 = some m.cls) (hK : gK E s) (hI : gI E.1 b0 G0 H0 G H locs) (hM : gMod E mo ma A G) (k : Nat) (hk : k = 1 ∨ k = 14) (hlink : (Cond.fieldLink RX11 index RX11 (TX11 k).2.1 (TX11 k).2.2.1) ∈ wsL_law) {v : Int32} (hdg : decode cc pc = .ok (.putfield index, 3)) (h1 : (TX11 k).1 = RX11) (h2 : (TX11 k).2.2.2 = false) (h3 : tyX11 k = .int) (h4 : k < 15)
    (kk : ∀ (G1 : gG) (H1 : Heap) (locs1 : List Loc), gMod E mo ma (u2 A k 0 v) G1 → gI E.1 b0 G0 H0 G1 H1 locs1 → W p l e R s m args below meth c H1 locs1 cells slots Q (F0 m (pc + 3) ls rest)) : W p l e R s m args below meth c H locs cells slots Q (F0 m pc ls (.int v :: .ref mo :: rest)) :=
  g_put (ci := 9) hx hb hts inlX11 tyX11 tyX11_ok nmX11 hown hK hI hM.1 rfl k h4 hlink (fun x hx => by rw [h1] at hx; exact hx) h2 (by rw [h3]; rfl) (by rw [h3]; rfl) (by simpa [mfs] using h4) hdg (fun H1 locs1 hI1 => kk _ H1 locs1 (hM.pf hk v) hI1)
end XR
theorem inb_in {v hi : Int32} {n : Nat} (h : inb v 0 hi = true) (hn : hi.toInt < n) : vp_in v n := by
  simp only [inb, Bool.and_eq_true, Bool.not_eq_true', decide_eq_false_iff_not] at h
  rw [vp_in_iff]
  rw [Int32.lt_iff_toInt_lt, Int32.lt_iff_toInt_lt] at h
  have h0 : (0 : Int32).toInt = 0 := by decide
  omega
theorem sh_in {s : Int32} (h : isSh s = true) : vp_in s 16 := inb_in h (by decide)
