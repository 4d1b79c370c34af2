def gN : gG := fun _ => none
theorem gI.other {D : va_G} {b0 : Nat} {G0 G G1 G2 : gG} {H0 H H1 : Heap} {locs L : List Loc} (hI : gI D b0 G0 H0 G H locs) (hO : gI D b0 G0 H0 G2 H locs) (hd : ∀ q, G q = none ∨ G2 q = none) (hJ : gI D b0 G H G1 H1 []) (hL : ∀ k ∈ L, b0 ≤ k.base) : gI D b0 G0 H0 G2 H1 (locs ++ L) ∧ ∀ q, G1 q = none ∨ G2 q = none := by
  have hfr := fun {q : Nat} (hq : H.size ≤ q) => hO.fresh hq
  obtain ⟨h1, h2, h3, h4, h5, h6, h7⟩ := hI
  obtain ⟨o1, o2, o3, o4, o5, o6, o7⟩ := hO
  obtain ⟨j1, j2, j3, j4, j5, j6, -⟩ := hJ
  refine ⟨⟨fun q y hq => ?_, Nat.le_trans o2 j2, fun q hq hz => ?_, o4, o5, o6, fun k hk => ?_⟩, fun q => ?_⟩
  · have hg : G q = none := (hd q).resolve_right (by rw [hq]; exact fun h => by cases h)
    exact (o1 q y hq).kept (j3 q (o1 q y hq).lt hg)
  · rw [j3 q (by omega) ?_]
    · exact o3 q hq hz
    · cases h : G q with
      | none => rfl
      | some y =>
        rcases h4 q (by rw [h]; exact fun h => by cases h) with z | z
        · exact absurd hz z
        · omega
  · rcases List.mem_append.mp hk with h | h
    · exact o7 k h
    · exact hL k h
  · cases h : G1 q with
    | none => exact Or.inl rfl
    | some y =>
      refine Or.inr ?_
      rcases j4 q (by rw [h]; exact fun h => by cases h) with z | z
      · exact (hd q).resolve_left z
      · exact hfr z
theorem gI.sub {D : va_G} {b0 : Nat} {G0 G G' : gG} {H0 H : Heap} {locs : List Loc} (hI : gI D b0 G0 H0 G H locs) (h : ∀ q, G' q = none ∨ G' q = G q) : gI D b0 G0 H0 G' H locs := by
  obtain ⟨h1, h2, h3, h4, h5, h6, h7⟩ := hI
  have hs : ∀ q, G' q ≠ none → G q ≠ none := fun q hq => by rw [← (h q).resolve_left hq]; exact hq
  refine ⟨fun q y hq => h1 q y ?_, h2, h3, fun q hq => h4 q (hs q hq), fun q hq => h5 q (hs q hq), h6, h7⟩
  rw [← (h q).resolve_left (by rw [hq]; exact fun h => by cases h)]
  exact hq
theorem law_S {D : va_G} {G : gG} {H0 H : Heap} {locs : List Loc} (hI : gI D H0.size gN H0 G H locs) : va_S (fun q : Nat => H0.size ≤ q) H0 H locs := ⟨hI.2.1, fun q hq _ => hI.2.2.1 q hq rfl, hI.2.2.2.2.2.2⟩
theorem SW.yc' {E : gE} {x : Nat} {aa : Nat → Nat} {A : gA} {n : Nat} {G : gG} (hS : SW E x aa A n G) : G x = some (yc aa A) := by
  rw [← hS.2.2.1]; exact hS.2.2.2.1
section G2
variable {p : Program} {l : Launch} {e : Env} {R : Room} {s : State} {m : MethodId} {args : Array Value} {below : List Frame} {meth : Method} {c : Code} {H : Heap} {locs : List Loc} {cells slots : Nat} {Q : State → Prop}
variable {cc : ByteArray} {pc : Nat} {ls : Array Slot} {rest : List Value} {E : gE} {b0 : Nat} {G0 G G2 : gG} {H0 : Heap} {a : Nat}
theorem g_go2 {mc ms : Nat} {post : Option Value → gG → Prop} {av : Array Value} {st0 : List Value} (hr : va_Run p l e R s m args below meth c H locs cells slots mc ms (F0 m pc ls st0) rest (gQ E b0 G post av) (fun q => b0 ≤ q)) (hI : gI E.1 b0 G0 H0 G H locs) (hO : gI E.1 b0 G0 H0 G2 H locs) (hd : ∀ q, G q = none ∨ G2 q = none)
    (kk : ∀ (r : Option Value) (G1 : gG) (H1 : Heap) (locs1 : List Loc), post r G1 → gI E.1 b0 G0 H0 G1 H1 locs1 → gI E.1 b0 G0 H0 G2 H1 locs1 → (∀ q, G1 q = none ∨ G2 q = none) → W p l e R s m args below meth c H1 locs1 (cells + mc) (slots + ms) Q (F0 m (pc + 3) ls (r.toList ++ rest))) : W p l e R s m args below meth c H locs cells slots Q (F0 m pc ls st0) := by
  intro T hT X
  obtain ⟨v, st₀, t, T', L, h0, X', hL, e1, e2, ⟨r, G1, hv, hp, hJ⟩, st⟩ := hr T hT X
  cases hv
  rw [h0] at hJ
  have ho := hI.other hO hd hJ hL
  obtain ⟨t2, a1, b1⟩ := kk _ G1 T'.heap (locs ++ L) hp (by rw [e1]; exact hI.call hJ hL) (by rw [e1]; exact ho.1) ho.2 T' rfl X'
  exact ⟨t2, st t2 a1, b1⟩
theorem g_callI2 {y : MethodName} {bytes : ByteArray} {own : String} {maxL nL lv mc ms n index b : Nat} {As : List Value} {post : Option Value → gG → Prop} {st0 : List Value} (hx : p.tables.exec = Jvm.exec) (hb : c.code = cc) (hml : c.maxLocals = nL) (hown : s.vm.findClass own = some m.cls) (hts : ∀ w ∈ wsL_law, w.before args s = true)
    (hM : gM l y bytes maxL none lv mc ms E b0 G (.ref b :: As) post) (m1 : Cond.methodLink own index y ∈ wsL_law) (m2 : Cond.instanceMethod y ∈ wsL_law) (m3 : Cond.initialized y.cls ∈ wsL_law) (m4 : Cond.code y bytes maxL none ∈ wsL_law) (hy : y.name = "<init>") (hd : y.cls ≠ "java/lang/invoke/MethodHandle" ∧ y.cls ≠ "java/lang/invoke/VarHandle" ∧ (parseMethodDescriptor y.desc).map (fun d => d.parameters.length) = some n)
    (hR : lv + 1 ≤ R.frames ∧ 8 + (maxL + 11) + 30 * lv ≤ R.locals) (hf : cells + mc ≤ R.cells ∧ slots + ms ≤ R.slots) (hn : As.length = n) (hsize : ls.size = nL) (hstack : st0 = As.reverse ++ .ref b :: rest) (hW : (rest.map fun v => v.category).sum ≤ 8) (hdg : decode cc pc = .ok (.invokespecial index, 3)) (hK : gK E s) (hI : gI E.1 b0 G0 H0 G H locs) (hO : gI E.1 b0 G0 H0 G2 H locs) (hdj : ∀ q, G q = none ∨ G2 q = none)
    (kk : ∀ (r : Option Value) (G1 : gG) (H1 : Heap) (locs1 : List Loc), post r G1 → gI E.1 b0 G0 H0 G1 H1 locs1 → gI E.1 b0 G0 H0 G2 H1 locs1 → (∀ q, G1 q = none ∨ G2 q = none) → W p l e R s m args below meth c H1 locs1 (cells + mc) (slots + ms) Q (F0 m (pc + 3) ls (r.toList ++ rest))) : W p l e R s m args below meth c H locs cells slots Q (F0 m pc ls st0) :=
  g_go2 (va_runI (Ts := wsL_law) (own := own) ⟨hx, hb, hml, hown, hts⟩ hM ⟨callB_of n hts (goodL m4) rfl rfl rfl (hts _ m3) (hts _ m1) hd hR, hy, hts _ m2⟩ (g_pre hK hI) rfl hn hsize hstack (lv_room hW) hdg hf) hI hO hdj kk
theorem g_callV2 {y : MethodName} {bytes : ByteArray} {own : String} {maxL nL lv mc ms n index b ci : Nat} {fs : List Value} {q : vw_C} {ret : Option FieldType} {As : List Value} {post : Option Value → gG → Prop} {st0 : List Value} (hx : p.tables.exec = Jvm.exec) (hb : c.code = cc) (hml : c.maxLocals = nL) (hown : s.vm.findClass own = some m.cls) (hts : ∀ w ∈ wsL_law, w.before args s = true)
    (hM : gM l y bytes maxL ret lv mc ms E b0 G (.ref b :: As) post) (hG : G b = some (.inr (ci, fs))) (hc : vwCl[ci]? = some q) (hq : y.cls = q.1) (m1 : Cond.methodLink own index y ∈ wsL_law) (m2 : Cond.instanceMethod y ∈ wsL_law) (m5 : Cond.selects y.cls y y ∈ wsL_law) (m3 : Cond.initialized y.cls ∈ wsL_law) (m4 : Cond.code y bytes maxL ret ∈ wsL_law) (hd : y.cls ≠ "java/lang/invoke/MethodHandle" ∧ y.cls ≠ "java/lang/invoke/VarHandle" ∧ (parseMethodDescriptor y.desc).map (fun d => d.parameters.length) = some n)
    (hR : lv + 1 ≤ R.frames ∧ 8 + (maxL + 11) + 30 * lv ≤ R.locals) (hf : cells + mc ≤ R.cells ∧ slots + ms ≤ R.slots) (hn : As.length = n) (hsize : ls.size = nL) (hstack : st0 = As.reverse ++ .ref b :: rest) (hW : (rest.map fun v => v.category).sum ≤ 8) (hdg : decode cc pc = .ok (.invokevirtual index, 3)) (hK : gK E s) (hI : gI E.1 b0 G0 H0 G H locs) (hO : gI E.1 b0 G0 H0 G2 H locs) (hdj : ∀ q, G q = none ∨ G2 q = none)
    (kk : ∀ (r : Option Value) (G1 : gG) (H1 : Heap) (locs1 : List Loc), post r G1 → gI E.1 b0 G0 H0 G1 H1 locs1 → gI E.1 b0 G0 H0 G2 H1 locs1 → (∀ q, G1 q = none ∨ G2 q = none) → W p l e R s m args below meth c H1 locs1 (cells + mc) (slots + ms) Q (F0 m (pc + 3) ls (r.toList ++ rest))) : W p l e R s m args below meth c H locs cells slots Q (F0 m pc ls st0) :=
  g_go2 (va_runV (Ts := wsL_law) (own := own) (C := y.cls) ⟨hx, hb, hml, hown, hts⟩ hM ⟨callB_of n hts (goodL m4) rfl rfl rfl (hts _ m3) (hts _ m1) hd hR, hts _ m2, hts _ m5⟩ ⟨gP.blind, by rw [hq]; exact g_recv hK hI hG hc, (g_pre hK hI).2⟩ rfl hn hsize hstack (lv_room hW) hdg hf) hI hO hdj kk
end G2
def LI (E : gE) (s : State) (x mo : Nat) (A : gA) (nn : Nat) (H : Heap) (locs : List Loc) : Prop := ∃ (Gc Gm : gG) (aa ma : Nat → Nat), SW E x aa A nn Gc ∧ gMod E mo ma A Gm ∧ gI E.1 s.heap.size gN s.heap Gc H locs ∧ gI E.1 s.heap.size gN s.heap Gm H locs ∧ ∀ q, Gc q = none ∨ Gm q = none
theorem w20 (N : Nat) (w : Int32) : w.toInt < 0 ∨ (N : Int) < w.toInt ∨ ∃ k, k < N + 1 ∧ w = nI k := by
  by_cases h : w < 0
  · left
    have := Int32.lt_iff_toInt_lt.mp h
    simpa using this
  · obtain ⟨k, hk, rfl⟩ := nI_of h
    rw [nI_toInt hk]
    by_cases h2 : k < N + 1
    · exact Or.inr (Or.inr ⟨k, h2, rfl⟩)
    · right; left; omega
theorem law_end {L j : Nat} (hL : L < 2 ^ 30) (hj : j < 2 ^ 28) : nI L - 5 < nI (5 * j) ↔ ¬ 5 * j + 5 ≤ L := by
  rw [Int32.lt_iff_toInt_lt, nI_toInt (show 5 * j < 2 ^ 31 by omega)]
  have : (nI L - 5).toInt = (L : Int) - 5 := by
    rw [Int32.toInt_sub, nI_toInt (show L < 2 ^ 31 by omega), show (5 : Int32).toInt = 5 by decide, Int.bmod_def]
    split <;> omega
  rw [this]
  omega
