abbrev gG : Type := Nat → Option va_E
abbrev gE : Type := va_G × ClassId × ClassId × ClassId
def gu (G : gG) (a : Nat) (x : va_E) : gG := fun q => if q = a then some x else G q
theorem gu_s (G : gG) (a : Nat) (x : va_E) : gu G a x a = some x := if_pos rfl
theorem gu_n {G : gG} {a q : Nat} {x : va_E} (h : q ≠ a) : gu G a x q = G q := if_neg h
theorem gu_some {G : gG} {a q : Nat} {x : va_E} (h : gu G a x q ≠ none) : q = a ∨ G q ≠ none := by
  by_cases z : q = a
  · exact Or.inl z
  · rw [gu_n z] at h; exact Or.inr h
def wH (D : va_G) (G : gG) (H : Heap) : Prop := ∀ (a : Nat) (x : va_E), G a = some x → va_at D vwCl (a, x) H
def gI (D : va_G) (b0 : Nat) (G0 : gG) (H0 : Heap) (G : gG) (H : Heap) (locs : List Loc) : Prop :=
  wH D G H ∧ H0.size ≤ H.size ∧ (∀ q : Nat, q < H0.size → G0 q = none → H[q]? = H0[q]?) ∧ (∀ q : Nat, G q ≠ none → G0 q ≠ none ∨ H0.size ≤ q) ∧ (∀ q : Nat, G q ≠ none → b0 ≤ q) ∧ b0 ≤ H0.size ∧ ∀ k ∈ locs, b0 ≤ k.base
theorem gI.one {D : va_G} {b0 : Nat} {G0 G : gG} {H0 H : Heap} {locs : List Loc} {a : Nat} {x : va_E} (hI : gI D b0 G0 H0 G H locs) (h : G a = some x) : va_P D vwCl [(a, x)] H := by
  intro k q hk
  cases k with
  | zero => cases hk; exact hI.1 a x h
  | succ k => simp at hk
theorem gI.set {D : va_G} {b0 : Nat} {G0 G : gG} {H0 H H1 : Heap} {locs : List Loc} {a k : Nat} {x0 x : va_E} (hI : gI D b0 G0 H0 G H locs) (hG : G a = some x0) (he : va_at D vwCl (a, x) H1) (z : H1.size = H.size) (oq : ∀ q : Nat, q ≠ a → H1[q]? = H[q]?) : gI D b0 G0 H0 (gu G a x) H1 (locs ++ [⟨a, k⟩]) := by
  obtain ⟨h1, h2, h3, h4, h5, h6, h7⟩ := hI
  have hn : G a ≠ none := by rw [hG]; exact fun h => by cases h
  refine ⟨fun q y hq => ?_, by rw [z]; exact h2, fun q hq hz => ?_, fun q hq => ?_, fun q hq => ?_, h6, fun q hq => ?_⟩
  · by_cases e : q = a
    · subst e; rw [gu_s] at hq; cases hq; exact he
    · rw [gu_n e] at hq; exact (h1 q y hq).kept (oq q e)
  · rw [oq q (fun e => ?_)]
    · exact h3 q hq hz
    · subst e
      rcases h4 q hn with h | h
      · exact h hz
      · omega
  · rcases gu_some hq with e | h
    · subst e; exact h4 q hn
    · exact h4 q h
  · rcases gu_some hq with e | h
    · subst e; exact h5 q hn
    · exact h5 q h
  · rcases List.mem_append.mp hq with h | h
    · exact h7 q h
    · rw [List.mem_singleton.mp h]; exact h5 a hn
theorem gI.fresh {D : va_G} {b0 : Nat} {G0 G : gG} {H0 H : Heap} {locs : List Loc} (hI : gI D b0 G0 H0 G H locs) {q : Nat} (hq : H.size ≤ q) : G q = none := by
  cases h : G q with
  | none => rfl
  | some y =>
    have h1 : q < H.size := (hI.1 q y h).lt
    omega
theorem gI.add {D : va_G} {b0 : Nat} {G0 G : gG} {H0 H H1 : Heap} {locs : List Loc} {x : va_E} (hI : gI D b0 G0 H0 G H locs) (he : va_at D vwCl (H.size, x) H1) (z : H1.size = H.size + 1) (oq : ∀ q : Nat, q < H.size → H1[q]? = H[q]?) : gI D b0 G0 H0 (gu G H.size x) H1 locs := by
  obtain ⟨h1, h2, h3, h4, h5, h6, h7⟩ := hI
  refine ⟨fun q y hq => ?_, by omega, fun q hq hz => ?_, fun q hq => ?_, fun q hq => ?_, h6, h7⟩
  · by_cases e : q = H.size
    · subst e; rw [gu_s] at hq; cases hq; exact he
    · rw [gu_n e] at hq; exact (h1 q y hq).kept (oq q (h1 q y hq).lt)
  · rw [oq q (by omega)]; exact h3 q hq hz
  · rcases gu_some hq with e | h
    · subst e; exact Or.inr h2
    · exact h4 q h
  · rcases gu_some hq with e | h
    · subst e; omega
    · exact h5 q h
theorem gI.call {D : va_G} {b0 : Nat} {G0 G G1 : gG} {H0 H H1 : Heap} {locs L : List Loc} (hI : gI D b0 G0 H0 G H locs) (hJ : gI D b0 G H G1 H1 []) (hL : ∀ k ∈ L, b0 ≤ k.base) : gI D b0 G0 H0 G1 H1 (locs ++ L) := by
  obtain ⟨h1, h2, h3, h4, h5, h6, h7⟩ := hI
  obtain ⟨j1, j2, j3, j4, j5, j6, -⟩ := hJ
  refine ⟨j1, Nat.le_trans h2 j2, fun q hq hz => ?_, fun q hq => ?_, j5, h6, fun q hq => ?_⟩
  · rw [j3 q (by omega) ?_]
    · exact h3 q hq hz
    · cases h : G q with
      | none => rfl
      | some y =>
        rcases h4 q (by rw [h]; exact fun h => by cases h) with h | h
        · exact absurd hz h
        · omega
  · rcases j4 q hq with h | h
    · exact h4 q h
    · exact Or.inr (by omega)
  · rcases List.mem_append.mp hq with h | h
    · exact h7 q h
    · exact hL q h
def gsub (c t : Nat) : Bool := match t with
  | 9 => true
  | 4 => c == 4 || c == 1
  | 1 => c == 1
  | 7 => c == 6
  | 6 => c == 3 || c == 7
  | 0 => c == 0
  | _ => c == 5
def gcn (c : Nat) : String := match c with
  | 0 => RX0
  | 1 => RX1
  | 2 => RX2
  | 3 => RX3
  | 4 => RX4
  | 5 => RX5
  | 6 => RX7
  | 7 => RX8
  | 8 => RX10
  | _ => RX11
def gtn (t : Nat) : String := match t with
  | 9 => RX9
  | 4 => RX4
  | 1 => RX1
  | 7 => RX7
  | 6 => RX6
  | 0 => RX0
  | _ => RX5
abbrev gth : List Nat := [0, 1, 3, 4, 5, 6, 7]
abbrev gtg : List Nat := [9, 4, 1, 7, 6, 0, 5]
def gK (E : gE) (U : State) : Prop := va_K E.1 vwCl [(E.2.1, .int), (E.2.2.1, .object RX9), (E.2.2.2, .object RX4)] U ∧ (va_AO RX9 U ∧ va_Nw (.declares ⟨RX6, "canCareFor", "([LHiveYard$Frame;)Z"⟩) U ∧ va_Nw (.declares ⟨RX6, "careFor", "([LHiveYard$Frame;I)I"⟩) U) ∧ va_AO RX4 U ∧ ∀ c ∈ gth, ∀ t ∈ gtg, if gsub c t = true then va_Nw (.castable (gcn c) (gtn t)) U else va_Nc (gcn c) (gtn t) U
theorem gK.warm {E : gE} {s U : State} (hW : s.WarmedH U.vm) (h : gK E s) : gK E U := by
  refine ⟨va_K.moved hW.alike h.1, ⟨va_AO.moved hW.alike h.2.1.1, va_Nw.warmD hW h.2.1.2.1, va_Nw.warmD hW h.2.1.2.2⟩, va_AO.moved hW.alike h.2.2.1, fun c hc t ht => ?_⟩
  have h1 := h.2.2.2 c hc t ht
  by_cases e : gsub c t = true
  · rw [if_pos e] at h1 ⊢; exact va_Nw.warmC hW h1
  · rw [if_neg e] at h1 ⊢; exact va_Nc.moved hW.alike h1
theorem gK.same {E : gE} {s U : State} (hW : s.vm = U.vm) (h : gK E s) : gK E U := by
  have ha : s.vm.Alike U.vm := by rw [hW]; exact Vm.Alike.refl _
  refine ⟨va_K.moved ha h.1, ⟨va_AO.moved ha h.2.1.1, va_Nw.same rfl hW h.2.1.2.1, va_Nw.same rfl hW h.2.1.2.2⟩, va_AO.moved ha h.2.2.1, fun c hc t ht => ?_⟩
  have h1 := h.2.2.2 c hc t ht
  by_cases e : gsub c t = true
  · rw [if_pos e] at h1 ⊢; exact va_Nw.same rfl hW h1
  · rw [if_neg e] at h1 ⊢; exact va_Nc.moved ha h1
def rmL (n mc ms : Nat) : Room := { frames := n, cells := mc, slots := ms, locals := 30 * n }
abbrev wsW (y : MethodName) (cb : ByteArray) (n : Nat) (ret : Option FieldType) : List Cond := .code y cb n ret :: wsL_law
def gP (E : gE) (b0 : Nat) (G : gG) (av : List Value) : Array Value → State → Prop := va_Pc av (fun U => gK E U ∧ wH E.1 G U.heap ∧ (∀ q : Nat, G q ≠ none → b0 ≤ q) ∧ b0 ≤ U.heap.size)
def gQ (E : gE) (b0 : Nat) (G : gG) (post : Option Value → gG → Prop) : Array Value → State → Outcome → State → Prop := fun _ st oc t => ∃ (r : Option Value) (G1 : gG), oc = .returned r ∧ post r G1 ∧ gI E.1 b0 G st.heap G1 t.heap []
def gM (l : Launch) (y : MethodName) (cb : ByteArray) (n : Nat) (ret : Option FieldType) (lv mc ms : Nat) (E : gE) (b0 : Nat) (G : gG) (av : List Value) (post : Option Value → gG → Prop) : Prop :=
  Met l y (wsW y cb n ret) (rmL lv mc ms) (gP E b0 G av) (gQ E b0 G post) mc ms (fun q => b0 ≤ q)
def pI (f : Int32 → gG → Prop) : Option Value → gG → Prop := fun r G1 => ∃ v : Int32, r = some (.int v) ∧ f v G1
def pL (f : Int64 → gG → Prop) : Option Value → gG → Prop := fun r G1 => ∃ v : Int64, r = some (.long v) ∧ f v G1
def pQ (f : Option Nat → gG → Prop) : Option Value → gG → Prop := fun r G1 => ∃ v : Option Nat, r = some (va_rf v) ∧ f v G1
def pV (f : gG → Prop) : Option Value → gG → Prop := fun r G1 => r = none ∧ f G1
theorem goodW {y y2 : MethodName} {cb cb2 : ByteArray} {n n2 : Nat} {ret ret2 : Option FieldType} (h : Cond.code y2 cb2 n2 ret2 ∈ wsL_law) : GoodIn (wsW y cb n ret) (wsW y2 cb2 n2 ret2) := by
  intro w hw
  rcases List.mem_cons.mp hw with e | e
  · subst e; exact ⟨List.mem_cons_of_mem _ h, good_law _ h⟩
  · exact ⟨List.mem_cons_of_mem _ e, good_law _ e⟩
theorem gP.blind {E : gE} {b0 : Nat} {G : gG} {av : List Value} : FrameBlind (gP E b0 G av) := fun a U g mk q => ⟨q.1, gK.same (s := U) (U := U.calling g mk a) rfl q.2.1, q.2.2⟩
theorem gI.start {E : gE} {b0 : Nat} {G : gG} {H : Heap} (h1 : wH E.1 G H) (h2 : ∀ q : Nat, G q ≠ none → b0 ≤ q) (h3 : b0 ≤ H.size) : gI E.1 b0 G H G H [] := ⟨h1, Nat.le_refl _, fun _ _ _ => rfl, fun _ h => Or.inl h, h2, h3, fun _ h => by cases h⟩
