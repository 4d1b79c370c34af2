theorem gI.nolocs {D : va_G} {b0 : Nat} {G0 G : gG} {H0 H : Heap} {locs : List Loc} (h : gI D b0 G0 H0 G H locs) : gI D b0 G0 H0 G H [] := ⟨h.1, h.2.1, h.2.2.1, h.2.2.2.1, h.2.2.2.2.1, h.2.2.2.2.2.1, fun _ q => by cases q⟩
theorem goodL {y2 : MethodName} {cb2 : ByteArray} {n2 : Nat} {ret2 : Option FieldType} (h : Cond.code y2 cb2 n2 ret2 ∈ wsL_law) : GoodIn wsL_law (wsW y2 cb2 n2 ret2) := by
  intro w hw
  rcases List.mem_cons.mp hw with e | e
  · subst e; exact ⟨h, good_law _ h⟩
  · exact ⟨e, good_law _ e⟩
set_option maxHeartbeats 4000000 in
theorem gM.of {l : Launch} {y : MethodName} {cb : ByteArray} {n : Nat} {ret : Option FieldType} {lv mc ms : Nat} {E : gE} {b0 : Nat} {G : gG} {av : List Value} {post : Option Value → gG → Prop} (hy : plainName y.cls = true) (hn : (lg_sl av).length ≤ n)
    (body : ∀ (p : Program) (e : Env) (s : State) (m : MethodId) (below : List Frame) (meth : Method) (c : Code) (ls : Array Slot), p.tables.exec = Jvm.exec → c.code = cb → meth.sig.returnType = ret → c.maxLocals = n → s.vm.findClass y.cls = some m.cls → meth.locks = false → meth.name = y.name → (∀ w ∈ wsL_law, w.before av.toArray s = true) → gK E s → gI E.1 b0 G s.heap G s.heap [] → lv_has ls n (lv_args 0 av) →
      W p l e (rmL lv mc ms) s m av.toArray below meth c s.heap [] 0 0 (MQ below (gQ E b0 G post) av.toArray s mc ms (fun q => b0 ≤ q)) (F0 m 0 ls [])) : gM l y cb n ret lv mc ms E b0 G av post := by
  refine Met.ofW (cc := cb) (maxL := n) (ret := ret) hy rfl ?_
  intro p e s m args below meth c s₁ B hml hv
  obtain ⟨rfl, hK, h1, h2, h3⟩ := hv
  have hts := atoms_spec (ws := wsW y cb n ret) B.pre
  have hl := lv_entry av (n := n) hn
  rw [lg_entry_eq]
  exact body p e s m below meth c _ B.exec B.bytes B.returns hml (findClass_of_methodNamed B.named) B.notSynchronized (name_of_methodNamed B.named B.method).1 (fun w h => hts w (List.mem_cons_of_mem _ h)) hK (gI.start h1 h2 h3) hl
section GR
variable {p : Program} {l : Launch} {e : Env} {R : Room} {s : State} {m : MethodId} {args : Array Value} {below : List Frame} {meth : Method} {c : Code} {H : Heap} {locs : List Loc} {cells slots : Nat} {Q : State → Prop}
variable {cc : ByteArray} {pc : Nat} {ls : Array Slot} {rest : List Value} {E : gE} {b0 : Nat} {G0 G : gG} {H0 : Heap} {a : Nat}
theorem g_iret {post : Option Value → gG → Prop} {v : Int32} {mc ms : Nat} (hx : p.tables.exec = Jvm.exec) (hb : c.code = cc) (hr : meth.sig.returnType = some .int) (hlocks : meth.locks = false) (hI : gI E.1 b0 G0 s.heap G H locs) (hp : post (some (.int v)) G) (hdg : decode cc pc = .ok (.ireturn, 1)) (hk : cells ≤ mc) (hs : slots ≤ ms) :
    W p l e R s m args below meth c H locs cells slots (MQ below (gQ E b0 G0 post) args s mc ms (fun q => b0 ≤ q)) (F0 m pc ls [.int v]) :=
  W.widen hk hs (W.iret hx hb hr (fun t ht _ => ⟨_, G, rfl, hp, by rw [ht]; exact hI.nolocs⟩) hI.2.2.2.2.2.2 hdg hlocks)
theorem g_zret {post : Option Value → gG → Prop} {v : Int32} {mc ms : Nat} (hx : p.tables.exec = Jvm.exec) (hb : c.code = cc) (hr : meth.sig.returnType = some .boolean) (hlocks : meth.locks = false) (hI : gI E.1 b0 G0 s.heap G H locs) (hn : narrow .boolean (.int v) = .int v) (hp : post (some (.int v)) G) (hdg : decode cc pc = .ok (.ireturn, 1)) (hk : cells ≤ mc) (hs : slots ≤ ms) :
    W p l e R s m args below meth c H locs cells slots (MQ below (gQ E b0 G0 post) args s mc ms (fun q => b0 ≤ q)) (F0 m pc ls [.int v]) :=
  W.widen hk hs (W.zret hx hb hr hn (fun t ht _ => ⟨_, G, rfl, hp, by rw [ht]; exact hI.nolocs⟩) hI.2.2.2.2.2.2 hdg hlocks)
theorem g_lret {post : Option Value → gG → Prop} {v : Int64} {mc ms : Nat} (hx : p.tables.exec = Jvm.exec) (hb : c.code = cc) (hr : meth.sig.returnType = some .long) (hlocks : meth.locks = false) (hI : gI E.1 b0 G0 s.heap G H locs) (hp : post (some (.long v)) G) (hdg : decode cc pc = .ok (.lreturn, 1)) (hk : cells ≤ mc) (hs : slots ≤ ms) :
    W p l e R s m args below meth c H locs cells slots (MQ below (gQ E b0 G0 post) args s mc ms (fun q => b0 ≤ q)) (F0 m pc ls [.long v]) :=
  W.widen hk hs (W.lret hx hb hr (fun t ht _ => ⟨_, G, rfl, hp, by rw [ht]; exact hI.nolocs⟩) hI.2.2.2.2.2.2 hdg hlocks)
theorem g_vret {post : Option Value → gG → Prop} {mc ms : Nat} (hx : p.tables.exec = Jvm.exec) (hb : c.code = cc) (hr : meth.sig.returnType = none) (hlocks : meth.locks = false) (hI : gI E.1 b0 G0 s.heap G H locs) (hp : post none G) (hdg : decode cc pc = .ok (.return_, 1)) (hk : cells ≤ mc) (hs : slots ≤ ms) :
    W p l e R s m args below meth c H locs cells slots (MQ below (gQ E b0 G0 post) args s mc ms (fun q => b0 ≤ q)) (F0 m pc ls []) :=
  W.widen hk hs (W.vret hx hb hr (fun t ht _ => ⟨_, G, rfl, hp, by rw [ht]; exact hI.nolocs⟩) hI.2.2.2.2.2.2 hdg hlocks)
theorem g_aret {post : Option Value → gG → Prop} {o : Option Nat} {nm : String} {mc ms : Nat} (hx : p.tables.exec = Jvm.exec) (hb : c.code = cc) (hr : meth.sig.returnType = some (.object nm)) (hlocks : meth.locks = false) (hI : gI E.1 b0 G0 s.heap G H locs) (hp : post (some (va_rf o)) G) (hdg : decode cc pc = .ok (.areturn, 1)) (hk : cells ≤ mc) (hs : slots ≤ ms) :
    W p l e R s m args below meth c H locs cells slots (MQ below (gQ E b0 G0 post) args s mc ms (fun q => b0 ≤ q)) (F0 m pc ls [va_rf o]) :=
  W.widen hk hs (W.aret hx hb hr (Or.inl ⟨_, rfl⟩) (va_rf_or o) (fun t ht _ => ⟨_, G, rfl, hp, by rw [ht]; exact hI.nolocs⟩) hI.2.2.2.2.2.2 hdg hlocks)
theorem g_go {mc ms : Nat} {post : Option Value → gG → Prop} {av : Array Value} {st0 : List Value} (hr : va_Run p l e R s m args below meth c H locs cells slots mc ms (F0 m pc ls st0) rest (gQ E b0 G post av) (fun q => b0 ≤ q)) (hI : gI E.1 b0 G0 H0 G H locs)
    (kk : ∀ (r : Option Value) (G1 : gG) (H1 : Heap) (locs1 : List Loc), post r G1 → gI E.1 b0 G0 H0 G1 H1 locs1 → W p l e R s m args below meth c H1 locs1 (cells + mc) (slots + ms) Q (F0 m (pc + 3) ls (r.toList ++ rest))) : W p l e R s m args below meth c H locs cells slots Q (F0 m pc ls st0) := by
  intro T hT X
  obtain ⟨v, st₀, t, T', L, h0, X', hL, e1, e2, ⟨r, G1, hv, hp, hJ⟩, st⟩ := hr T hT X
  cases hv
  rw [h0] at hJ
  obtain ⟨t2, a1, b1⟩ := kk _ G1 T'.heap (locs ++ L) hp (by rw [e1]; exact hI.call hJ hL) T' rfl X'
  exact ⟨t2, st t2 a1, b1⟩
theorem g_pre {As : List Value} (hK : gK E s) (hI : gI E.1 b0 G0 H0 G H locs) : PreS s H (gP E b0 G As) As := ⟨gP.blind, fun U hU hW => ⟨rfl, hK.warm hW, by rw [hU]; exact hI.1, hI.2.2.2.2.1, by rw [hU]; exact Nat.le_trans hI.2.2.2.2.2.1 hI.2.1⟩⟩
theorem g_callS {y : MethodName} {bytes : ByteArray} {own : String} {maxL nL lv mc ms n index : Nat} {ret : Option FieldType} {As : List Value} {post : Option Value → gG → Prop} {st0 : List Value} (hx : p.tables.exec = Jvm.exec) (hb : c.code = cc) (hml : c.maxLocals = nL) (hown : s.vm.findClass own = some m.cls) (hts : ∀ w ∈ wsL_law, w.before args s = true)
    (hM : gM l y bytes maxL ret lv mc ms E b0 G As post) (m1 : Cond.methodLink own index y ∈ wsL_law) (m2 : Cond.static y ∈ wsL_law) (m3 : Cond.initialized y.cls ∈ wsL_law) (m4 : Cond.code y bytes maxL ret ∈ wsL_law) (hd : y.cls ≠ "java/lang/invoke/MethodHandle" ∧ y.cls ≠ "java/lang/invoke/VarHandle" ∧ (parseMethodDescriptor y.desc).map (fun d => d.parameters.length) = some n)
    (hR : lv + 1 ≤ R.frames ∧ 8 + (maxL + 11) + 30 * lv ≤ R.locals) (hf : cells + mc ≤ R.cells ∧ slots + ms ≤ R.slots) (hn : As.length = n) (hsize : ls.size = nL) (hstack : st0 = As.reverse ++ rest) (hW : (rest.map fun v => v.category).sum ≤ 8) (hdg : decode cc pc = .ok (.invokestatic index, 3)) (hK : gK E s) (hI : gI E.1 b0 G0 H0 G H locs)
    (kk : ∀ (r : Option Value) (G1 : gG) (H1 : Heap) (locs1 : List Loc), post r G1 → gI E.1 b0 G0 H0 G1 H1 locs1 → W p l e R s m args below meth c H1 locs1 (cells + mc) (slots + ms) Q (F0 m (pc + 3) ls (r.toList ++ rest))) : W p l e R s m args below meth c H locs cells slots Q (F0 m pc ls st0) :=
  g_go (va_runS (Ts := wsL_law) (own := own) ⟨hx, hb, hml, hown, hts⟩ hM ⟨callB_of n hts (goodL m4) rfl rfl rfl (hts _ m3) (hts _ m1) hd hR, hts _ m2⟩ (g_pre hK hI) rfl hn hsize hstack (lv_room hW) hdg hf) hI kk
theorem g_callI {y : MethodName} {bytes : ByteArray} {own : String} {maxL nL lv mc ms n index b : Nat} {As : List Value} {post : Option Value → gG → Prop} {st0 : List Value} (hx : p.tables.exec = Jvm.exec) (hb : c.code = cc) (hml : c.maxLocals = nL) (hown : s.vm.findClass own = some m.cls) (hts : ∀ w ∈ wsL_law, w.before args s = true)
    (hM : gM l y bytes maxL none lv mc ms E b0 G (.ref b :: As) post) (m1 : Cond.methodLink own index y ∈ wsL_law) (m2 : Cond.instanceMethod y ∈ wsL_law) (m3 : Cond.initialized y.cls ∈ wsL_law) (m4 : Cond.code y bytes maxL none ∈ wsL_law) (hy : y.name = "<init>") (hd : y.cls ≠ "java/lang/invoke/MethodHandle" ∧ y.cls ≠ "java/lang/invoke/VarHandle" ∧ (parseMethodDescriptor y.desc).map (fun d => d.parameters.length) = some n)
    (hR : lv + 1 ≤ R.frames ∧ 8 + (maxL + 11) + 30 * lv ≤ R.locals) (hf : cells + mc ≤ R.cells ∧ slots + ms ≤ R.slots) (hn : As.length = n) (hsize : ls.size = nL) (hstack : st0 = As.reverse ++ .ref b :: rest) (hW : (rest.map fun v => v.category).sum ≤ 8) (hdg : decode cc pc = .ok (.invokespecial index, 3)) (hK : gK E s) (hI : gI E.1 b0 G0 H0 G H locs)
    (kk : ∀ (r : Option Value) (G1 : gG) (H1 : Heap) (locs1 : List Loc), post r G1 → gI E.1 b0 G0 H0 G1 H1 locs1 → W p l e R s m args below meth c H1 locs1 (cells + mc) (slots + ms) Q (F0 m (pc + 3) ls (r.toList ++ rest))) : W p l e R s m args below meth c H locs cells slots Q (F0 m pc ls st0) :=
  g_go (va_runI (Ts := wsL_law) (own := own) ⟨hx, hb, hml, hown, hts⟩ hM ⟨callB_of n hts (goodL m4) rfl rfl rfl (hts _ m3) (hts _ m1) hd hR, hy, hts _ m2⟩ (g_pre hK hI) rfl hn hsize hstack (lv_room hW) hdg hf) hI kk
theorem g_recv (hK : gK E s) (hI : gI E.1 b0 G0 H0 G H locs) {ci : Nat} {fs : List Value} {q : vw_C} (hG : G a = some (.inr (ci, fs))) (hc : vwCl[ci]? = some q) : ∃ cell : Cell, H[a]? = some cell ∧ cell.vm.isStatics = false ∧ s.vm.findClass q.1 = some cell.cls := va_recv (q0 := 0) hK.1 (hI.one hG) hc rfl
theorem g_callV {y : MethodName} {bytes : ByteArray} {own : String} {maxL nL lv mc ms n index b ci : Nat} {fs : List Value} {q : vw_C} {ret : Option FieldType} {As : List Value} {post : Option Value → gG → Prop} {st0 : List Value} (hx : p.tables.exec = Jvm.exec) (hb : c.code = cc) (hml : c.maxLocals = nL) (hown : s.vm.findClass own = some m.cls) (hts : ∀ w ∈ wsL_law, w.before args s = true)
    (hM : gM l y bytes maxL ret lv mc ms E b0 G (.ref b :: As) post) (hG : G b = some (.inr (ci, fs))) (hc : vwCl[ci]? = some q) (hq : y.cls = q.1) (m1 : Cond.methodLink own index y ∈ wsL_law) (m2 : Cond.instanceMethod y ∈ wsL_law) (m5 : Cond.selects y.cls y y ∈ wsL_law) (m3 : Cond.initialized y.cls ∈ wsL_law) (m4 : Cond.code y bytes maxL ret ∈ wsL_law) (hd : y.cls ≠ "java/lang/invoke/MethodHandle" ∧ y.cls ≠ "java/lang/invoke/VarHandle" ∧ (parseMethodDescriptor y.desc).map (fun d => d.parameters.length) = some n)
    (hR : lv + 1 ≤ R.frames ∧ 8 + (maxL + 11) + 30 * lv ≤ R.locals) (hf : cells + mc ≤ R.cells ∧ slots + ms ≤ R.slots) (hn : As.length = n) (hsize : ls.size = nL) (hstack : st0 = As.reverse ++ .ref b :: rest) (hW : (rest.map fun v => v.category).sum ≤ 8) (hdg : decode cc pc = .ok (.invokevirtual index, 3)) (hK : gK E s) (hI : gI E.1 b0 G0 H0 G H locs)
    (kk : ∀ (r : Option Value) (G1 : gG) (H1 : Heap) (locs1 : List Loc), post r G1 → gI E.1 b0 G0 H0 G1 H1 locs1 → W p l e R s m args below meth c H1 locs1 (cells + mc) (slots + ms) Q (F0 m (pc + 3) ls (r.toList ++ rest))) : W p l e R s m args below meth c H locs cells slots Q (F0 m pc ls st0) :=
  g_go (va_runV (Ts := wsL_law) (own := own) (C := y.cls) ⟨hx, hb, hml, hown, hts⟩ hM ⟨callB_of n hts (goodL m4) rfl rfl rfl (hts _ m3) (hts _ m1) hd hR, hts _ m2, hts _ m5⟩ ⟨gP.blind, by rw [hq]; exact g_recv hK hI hG hc, (g_pre hK hI).2⟩ rfl hn hsize hstack (lv_room hW) hdg hf) hI kk
theorem g_get (hx : p.tables.exec = Jvm.exec) (hb : c.code = cc) {own ref C : String} {T : u_T} {N ci index : Nat} (hts : ∀ w ∈ wsL_law, w.before args s = true) (hin : ∀ w ∈ u_ws C T N, w ∈ wsL_law) (hown : s.vm.findClass own = some m.cls) (hK : gK E s) (hI : gI E.1 b0 G0 H0 G H locs) {fs : List Value} (hG : G a = some (.inr (ci, fs))) (hc : vwCl[ci]? = some (C, T, N)) (k : Nat) (hk : k < N) (hlink : (Cond.fieldLink own index ref (T k).2.1 (T k).2.2.1) ∈ wsL_law) (hsame : ∀ x, s.fieldFound? (T k).1 (T k).2.1 (T k).2.2.1 = some x → s.fieldFound? ref (T k).2.1 (T k).2.2.1 = some x) {v : Value} (hv : fs[k]? = some v) (hdg : decode cc pc = .ok (.getfield index, 3))
    (kk : W p l e R s m args below meth c H locs cells slots Q (F0 m (pc + 3) ls (v :: rest))) : W p l e R s m args below meth c H locs cells slots Q (F0 m pc ls (.ref a :: rest)) :=
  va_get hx hb hts hin hown hK.1 (hI.one hG) 0 rfl hc k hk (hts _ hlink) hsame hv hdg kk
theorem g_put (hx : p.tables.exec = Jvm.exec) (hb : c.code = cc) {own ref C : String} {T : u_T} {N ci index : Nat} (hts : ∀ w ∈ wsL_law, w.before args s = true) (hin : ∀ w ∈ u_ws C T N, w ∈ wsL_law) (ty0 : Nat → FieldType) (hty : ∀ k, k < N → parseFieldDescriptor (T k).2.2.1 = some (ty0 k)) (hnm : ∀ a, a < N → ∀ b, b < N → a ≠ b → (T a).2.1 ≠ (T b).2.1) (hown : s.vm.findClass own = some m.cls) (hK : gK E s) (hI : gI E.1 b0 G0 H0 G H locs) {fs : List Value} (hG : G a = some (.inr (ci, fs))) (hc : vwCl[ci]? = some (C, T, N)) (k : Nat) (hk : k < N) (hlink : (Cond.fieldLink own index ref (T k).2.1 (T k).2.2.1) ∈ wsL_law) (hsame : ∀ x, s.fieldFound? (T k).1 (T k).2.1 (T k).2.2.1 = some x → s.fieldFound? ref (T k).2.1 (T k).2.2.1 = some x) (hfin : (T k).2.2.2 = false) {v : Value} (hn : narrow (ty0 k) v = v) (hfit : fits (ty0 k) v = true) (hl : k < fs.length)
    (hdg : decode cc pc = .ok (.putfield index, 3)) (kk : ∀ (H1 : Heap) (locs1 : List Loc), gI E.1 b0 G0 H0 (gu G a (.inr (ci, fs.set k v))) H1 locs1 → W p l e R s m args below meth c H1 locs1 cells slots Q (F0 m (pc + 3) ls rest)) : W p l e R s m args below meth c H locs cells slots Q (F0 m pc ls (v :: .ref a :: rest)) := by
  have hap := va_apart (own := own) hts hin ty0 hty hnm hK.1 hc
  obtain ⟨r, h1, cell, q1, q2, q3, q4⟩ := hI.1 a _ hG
  have hr : r = (C, T, N) := Option.some.inj (h1.symm.trans hc)
  subst hr
  obtain ⟨hS, hfc, kC, hkC, hkind⟩ := hK.1.1 ci _ hc
  obtain ⟨cf, kf, fi, f, hi, hsl⟩ := hS k hk
  have hlay := hts _ (hin _ (u_in_lay hk))
  unfold u_lay at hlay
  rw [if_neg (by rw [hfin]; decide)] at hlay
  have hst := (u_facts hfc hkC (u_lays hts hin hk) hi).1
  have h6 := u_store hfc hkC hkind hlay hi (hty k hk) hn hfit
  refine W.putK hx hb (f := f) ⟨hown, hts _ hlink, ⟨_, _, _, hsame _ hi⟩, hst⟩ (by rw [q2]; exact h6) q1 q3 (by rw [hsl]; exact k2_hasslot (q4 k hk)) rfl rfl hdg fun H' e1 e2 e3 => ?_
  rw [hsl] at e1 ⊢
  exact kk H' _ (hI.set hG ⟨_, hc, t_OB.to (V := updV (vp_V fs) k v) ⟨_, e1, q2, q3, t_set q4 hap hk v⟩ (fun j _ => vp_updV_set hl v j)⟩ e2 e3)
theorem g_putF (hx : p.tables.exec = Jvm.exec) (hb : c.code = cc) {own ref C : String} {T : u_T} {N ci index : Nat} (hts : ∀ w ∈ wsL_law, w.before args s = true) (hin : ∀ w ∈ u_ws C T N, w ∈ wsL_law) (ty0 : Nat → FieldType) (hty : ∀ k, k < N → parseFieldDescriptor (T k).2.2.1 = some (ty0 k)) (hnm : ∀ a, a < N → ∀ b, b < N → a ≠ b → (T a).2.1 ≠ (T b).2.1) (hown : s.vm.findClass own = some m.cls) (hK : gK E s) (hI : gI E.1 b0 G0 H0 G H locs) {fs : List Value} (hG : G a = some (.inr (ci, fs))) (hc : vwCl[ci]? = some (C, T, N)) (k : Nat) (hk : k < N) (hlink : (Cond.fieldLink own index ref (T k).2.1 (T k).2.2.1) ∈ wsL_law) (hsame : ∀ x, s.fieldFound? (T k).1 (T k).2.1 (T k).2.2.1 = some x → s.fieldFound? ref (T k).2.1 (T k).2.2.1 = some x) (hfin : (T k).2.2.2 = true) (hin2 : meth.name = "<init>") (hdecl : (T k).1 = own) {v : Value} (hn : narrow (ty0 k) v = v) (hfit : fits (ty0 k) v = true) (hl : k < fs.length)
    (hdg : decode cc pc = .ok (.putfield index, 3)) (kk : ∀ (H1 : Heap) (locs1 : List Loc), gI E.1 b0 G0 H0 (gu G a (.inr (ci, fs.set k v))) H1 locs1 → W p l e R s m args below meth c H1 locs1 cells slots Q (F0 m (pc + 3) ls rest)) : W p l e R s m args below meth c H locs cells slots Q (F0 m pc ls (v :: .ref a :: rest)) := by
  have hap := va_apart (own := own) hts hin ty0 hty hnm hK.1 hc
  obtain ⟨r, h1, cell, q1, q2, q3, q4⟩ := hI.1 a _ hG
  have hr : r = (C, T, N) := Option.some.inj (h1.symm.trans hc)
  subst hr
  obtain ⟨hS, hfc, kC, hkC, hkind⟩ := hK.1.1 ci _ hc
  obtain ⟨cf, kf, fi, f, hi, hsl⟩ := hS k hk
  have hlay := hts _ (hin _ (u_in_lay hk))
  unfold u_lay at hlay
  rw [if_pos hfin] at hlay
  have hst := (u_facts hfc hkC (u_lays hts hin hk) hi).1
  have hcf : m.cls = cf := by
    obtain ⟨_, _, c', _, _, _, -, -, hf', -, -, -, hown2, -⟩ := Cond.laysFinal_spec hlay
    have e1 : c' = cf := by have := hi.symm.trans hf'; simp at this; exact this.1.symm
    rw [hdecl] at hown2
    rw [← e1]; exact Option.some.inj (hown.symm.trans hown2)
  have h6 := u_fits hfc hkC hkind (Or.inr hlay) hi (hty k hk) hn hfit
  refine W.putFinK hx hb hown (hts _ hlink) (hsame _ hi) hst hcf hin2 (by rw [q2]; exact h6) q1 q3 (by rw [hsl]; exact k2_hasslot (q4 k hk)) rfl rfl hdg fun H' e1 e2 e3 => ?_
  rw [hsl] at e1 ⊢
  exact kk H' _ (hI.set hG ⟨_, hc, t_OB.to (V := updV (vp_V fs) k v) ⟨_, e1, q2, q3, t_set q4 hap hk v⟩ (fun j _ => vp_updV_set hl v j)⟩ e2 e3)
theorem g_iald (hx : p.tables.exec = Jvm.exec) (hb : c.code = cc) (hK : gK E s) (hI : gI E.1 b0 G0 H0 G H locs) {n : Nat} {f : Nat → Int32} (hG : G a = some (.inl (E.2.1, n, .inl f))) {i : Int32} (hin : vp_in i n) (hdg : decode cc pc = .ok (.iaload, 1))
    (kk : W p l e R s m args below meth c H locs cells slots Q (F0 m (pc + 1) ls (.int (f i.toNatClampNeg) :: rest))) : W p l e R s m args below meth c H locs cells slots Q (F0 m pc ls (.int i :: .ref a :: rest)) :=
  va_iald hx hb hK.1 (hI.one hG) 0 0 rfl rfl hin hdg kk
theorem g_iast (hx : p.tables.exec = Jvm.exec) (hb : c.code = cc) (hK : gK E s) (hI : gI E.1 b0 G0 H0 G H locs) {n : Nat} {f : Nat → Int32} (hG : G a = some (.inl (E.2.1, n, .inl f))) {i x : Int32} (hin : vp_in i n) (hdg : decode cc pc = .ok (.iastore, 1))
    (kk : ∀ (H1 : Heap) (locs1 : List Loc), gI E.1 b0 G0 H0 (gu G a (.inl (E.2.1, n, .inl (upd f i.toNatClampNeg x)))) H1 locs1 → W p l e R s m args below meth c H1 locs1 cells slots Q (F0 m (pc + 1) ls rest)) : W p l e R s m args below meth c H locs cells slots Q (F0 m pc ls (.int x :: .int i :: .ref a :: rest)) := by
  refine W.iast hx hb (hI.1 a _ hG) ((hK.1.2 0 _ rfl).1 n (fun j => .int (f j))) (fun q => by cases q) (by show ¬ (i < 0 ∨ (arrV _ _ _).slots.size ≤ _); rw [arrV_size]; exact hin) rfl rfl hdg fun H1 e1 z oq => ?_
  refine kk H1 _ (hI.set hG ?_ z oq)
  show H1[a]? = some (vp_cell _ _)
  rw [e1]
  rw [vp_cell_i, vp_cell_i, arrV_store]
  congr 2
  funext q
  by_cases hq : q = i.toNatClampNeg
  · subst hq
    simp [updV, upd]
  · simp [updV, upd, hq]
theorem g_aald (hx : p.tables.exec = Jvm.exec) (hb : c.code = cc) (hK : gK E s) (hI : gI E.1 b0 G0 H0 G H locs) (t0 : Nat) {cA : ClassId} {C : String} {n : Nat} {f : Nat → Option Nat} (hG : G a = some (.inl (cA, n, .inr (.inr (.inr (.inr f)))))) (ht : [(E.2.1, FieldType.int), (E.2.2.1, .object RX9), (E.2.2.2, .object RX4)][t0]? = some (cA, .object C)) {i : Int32} (hin : vp_in i n) (hdg : decode cc pc = .ok (.aaload, 1))
    (kk : W p l e R s m args below meth c H locs cells slots Q (F0 m (pc + 1) ls (va_rf (f i.toNatClampNeg) :: rest))) : W p l e R s m args below meth c H locs cells slots Q (F0 m pc ls (.int i :: .ref a :: rest)) :=
  va_aldq hx hb hK.1 (hI.one hG) 0 t0 rfl ht hin hdg kk
theorem g_aast (hx : p.tables.exec = Jvm.exec) (hb : c.code = cc) (hK : gK E s) (hI : gI E.1 b0 G0 H0 G H locs) (t0 : Nat) {cA : ClassId} {C : String} {n : Nat} {f : Nat → Option Nat} {o : Option Nat} (hG : G a = some (.inl (cA, n, .inr (.inr (.inr (.inr f)))))) (ht : [(E.2.1, FieldType.int), (E.2.2.1, .object RX9), (E.2.2.2, .object RX4)][t0]? = some (cA, .object C)) (ho : ∀ v, o = some v → va_Any C s H v) {i : Int32} (hin : vp_in i n) (hdg : decode cc pc = .ok (.aastore, 1))
    (kk : ∀ (H1 : Heap) (locs1 : List Loc), gI E.1 b0 G0 H0 (gu G a (.inl (cA, n, .inr (.inr (.inr (.inr (va_up f i.toNatClampNeg o))))))) H1 locs1 → W p l e R s m args below meth c H1 locs1 cells slots Q (F0 m (pc + 1) ls rest)) : W p l e R s m args below meth c H locs cells slots Q (F0 m pc ls (va_rf o :: .int i :: .ref a :: rest)) := by
  have hlt : i.toNatClampNeg < n := Nat.not_le.mp fun q => hin (Or.inr q)
  have h0 : ¬ i < 0 := fun q => hin (Or.inl q)
  have key : ∀ (H1 : Heap), H1[a]? = some ((vp_cell cA (n, .inr (.inr (.inr (.inr f))))).setSlot i.toNatClampNeg (va_rf o)) → va_at E.1 vwCl (a, .inl (cA, n, .inr (.inr (.inr (.inr (va_up f i.toNatClampNeg o)))))) H1 := by
    intro H1 e1
    show H1[a]? = some (vp_cell _ _)
    rw [e1]
    rw [vp_cell_q, vp_cell_q, arrV_store]
    congr 2
    funext q
    by_cases hq : q = i.toNatClampNeg
    · subst hq
      simp [updV, va_up]
    · simp [updV, va_up, hq]
  cases o with
  | none =>
    refine va_WaastN (C := C) hx hb (hI.1 a _ hG) ((hK.1.2 t0 _ ht).1 n (fun j => va_rf (f j))) (fun h => by cases h) (by show ¬ (i < 0 ∨ (arrV _ _ _).slots.size ≤ _); rw [arrV_size]; exact hin) rfl rfl hdg fun H1 e1 z oq => ?_
    exact kk H1 _ (hI.set hG (key H1 e1) z oq)
  | some v =>
    obtain ⟨cellV, g1, g3, ⟨kC, hkC⟩, hasg⟩ := ho v rfl
    obtain ⟨kA, comp, k1, k2, k3, -⟩ := (hK.1.2 t0 _ ht).2
    obtain ⟨kE, hkE, -⟩ := Vm.findClass_spec k3
    refine W.aast hx hb (hI.1 a _ hG) (fun q h => by cases h) (fun h => by cases h) k1 k2 rfl hkE ⟨h0, by show _ < (arrV _ _ _).slots.size; rw [arrV_size]; exact hlt⟩ g1 (fun q h => by rw [h] at g3; cases g3) hkC (hasg _ k3) rfl rfl hdg fun H1 e1 z oq => ?_
    exact kk H1 _ (hI.set hG (key H1 e1) z oq)
theorem g_any (hK : gK E s) (hI : gI E.1 b0 G0 H0 G H locs) {ci t : Nat} {fs : List Value} (hG : G a = some (.inr (ci, fs))) (hci : ci ∈ gth) (ht : t ∈ gtg) (hs : gsub ci t = true) : va_Any (gtn t) s H a := by
  have h1 := hK.2.2.2 ci hci t ht
  rw [if_pos hs] at h1
  obtain ⟨c0, t0, f1, f2, f3⟩ := Cond.castable_spec (va_Nw.use (A := #[]) rfl h1)
  have hq : ∃ q : vw_C, vwCl[ci]? = some q ∧ q.1 = gcn ci := by
    simp only [gth, List.mem_cons, List.not_mem_nil, or_false] at hci
    rcases hci with rfl | rfl | rfl | rfl | rfl | rfl | rfl <;> exact ⟨_, rfl, rfl⟩
  obtain ⟨q, hq1, hq2⟩ := hq
  refine va_rAny (q0 := 0) hK.1 (hI.one hG) rfl hq1 (fun comp cc0 g1 g2 => ?_)
  rw [hq2] at g2
  cases f2.symm.trans g1
  cases f1.symm.trans g2
  exact f3
theorem g_alen (hx : p.tables.exec = Jvm.exec) (hb : c.code = cc) (hK : gK E s) (hI : gI E.1 b0 G0 H0 G H locs) (t0 : Nat) {cA : ClassId} {x : vp_A} {ty : FieldType} (hG : G a = some (.inl (cA, x))) (ht : [(E.2.1, FieldType.int), (E.2.2.1, .object RX9), (E.2.2.2, .object RX4)][t0]? = some (cA, ty)) {v : Int32} (hv : Int32.ofNat x.1 = v) (hdg : decode cc pc = .ok (.arraylength, 1))
    (kk : W p l e R s m args below meth c H locs cells slots Q (F0 m (pc + 1) ls (.int v :: rest))) : W p l e R s m args below meth c H locs cells slots Q (F0 m pc ls (.ref a :: rest)) :=
  va_alen hx hb hK.1 (hI.one hG) 0 t0 rfl ht hv hdg kk
theorem g_newi (hx : p.tables.exec = Jvm.exec) (hb : c.code = cc) (hts : ∀ w ∈ wsL_law, w.before args s = true) (hK : gK E s) (hI : gI E.1 b0 G0 H0 G H locs) {n : Int32} (N : Nat) (hn : ¬ n < 0) (hN : n.toNatClampNeg = N) (hbytes : N * 4 ≤ 536870912) (hcells : cells + 1 ≤ R.cells) (hslots : slots + N ≤ R.slots) (hw : Cond.arrayClass .int ∈ wsL_law) (hdg : decode cc pc = .ok (.newarray .int, 2))
    (kk : ∀ (q : Nat) (H1 : Heap), G q = none → gI E.1 b0 G0 H0 (gu G q (.inl (E.2.1, N, .inl (fun _ => 0)))) H1 locs → W p l e R s m args below meth c H1 locs (cells + 1) (slots + N) Q (F0 m (pc + 2) ls (.ref q :: rest))) : W p l e R s m args below meth c H locs cells slots Q (F0 m pc ls (.int n :: rest)) := by
  refine va_newaK (atype := .int) hx hb (hts _ hw) rfl hdg rfl hn hN hbytes hcells hslots rfl fun H1 cA e1 z1 o1 hAr hNm => ?_
  have hc : cA = E.2.1 := by
    have h2 : s.vm.findClass ("[" ++ FieldType.int.toString) = some E.2.1 := (hK.1.2 0 _ rfl).2
    exact Option.some.inj (hNm.symm.trans h2)
  subst hc
  exact kk H.size H1 (hI.fresh (Nat.le_refl _)) (hI.add e1 z1 o1)
theorem g_newq (hx : p.tables.exec = Jvm.exec) (hb : c.code = cc) (hts : ∀ w ∈ wsL_law, w.before args s = true) (hK : gK E s) (hI : gI E.1 b0 G0 H0 G H locs) {own C : String} {index : Nat} (t0 : Nat) {cA : ClassId} (ht : [(E.2.1, FieldType.int), (E.2.2.1, .object RX9), (E.2.2.2, .object RX4)][t0]? = some (cA, .object C)) (hown : s.vm.findClass own = some m.cls) (hcl : Cond.classLink own index C ∈ wsL_law) (hover : va_AO C s) {n : Int32} (N : Nat) (hn : ¬ n < 0) (hN : n.toNatClampNeg = N) (hbytes : N * 4 ≤ 536870912) (hcells : cells + 1 ≤ R.cells) (hslots : slots + N ≤ R.slots) (hdg : decode cc pc = .ok (.anewarray index, 3))
    (kk : ∀ (q : Nat) (H1 : Heap), G q = none → gI E.1 b0 G0 H0 (gu G q (.inl (cA, N, .inr (.inr (.inr (.inr (fun _ => none))))))) H1 locs → W p l e R s m args below meth c H1 locs (cells + 1) (slots + N) Q (F0 m (pc + 3) ls (.ref q :: rest))) : W p l e R s m args below meth c H locs cells slots Q (F0 m pc ls (.int n :: rest)) := by
  subst hN
  refine W.anew hx hb hown (hts _ hcl) (va_AO.use hover) rfl hdg rfl hn hbytes hcells hslots fun cA1 kA comp f1 f2 f3 f4 => ?_
  have hc : cA1 = cA := by
    obtain ⟨_, _, -, -, -, k4⟩ := (hK.1.2 t0 _ ht).2
    exact Option.some.inj (f1.symm.trans k4)
  subst hc
  refine kk H.size _ (hI.fresh (Nat.le_refl _)) (hI.add ?_ (by simp) (fun q hq => by rw [Array.getElem?_push, if_neg (Nat.ne_of_lt hq)]))
  show (H.push _)[H.size]? = some (vp_cell _ _)
  rw [vp_cell_q, Array.getElem?_push_size, ← arrV_new]
  rfl
theorem g_new (hx : p.tables.exec = Jvm.exec) (hb : c.code = cc) {own C : String} {T : u_T} {N ci index : Nat} (hts : ∀ w ∈ wsL_law, w.before args s = true) (hin : ∀ w ∈ u_ws C T N, w ∈ wsL_law) (ty : Nat → FieldType) (hty : ∀ k, k < N → parseFieldDescriptor (T k).2.2.1 = some (ty k)) (hown : s.vm.findClass own = some m.cls) (hcl : (Cond.classLink own index C) ∈ wsL_law) (hinst : (Cond.instantiable C N) ∈ wsL_law) (hini : (Cond.initialized C) ∈ wsL_law)
    (hK : gK E s) (hI : gI E.1 b0 G0 H0 G H locs) (hc : vwCl[ci]? = some (C, T, N)) {fs : List Value} (hfs : ∀ j, j < N → defaultValue (ty j) = vp_V fs j) (hcells : cells + 1 ≤ R.cells) (hslots : slots + N ≤ R.slots) (hdg : decode cc pc = .ok (.new index, 3))
    (kk : ∀ (q : Nat) (H1 : Heap), G q = none → gI E.1 b0 G0 H0 (gu G q (.inr (ci, fs))) H1 locs → W p l e R s m args below meth c H1 locs (cells + 1) (slots + N) Q (F0 m (pc + 3) ls (.ref q :: rest))) : W p l e R s m args below meth c H locs cells slots Q (F0 m pc ls rest) := by
  have hKn := hK.1.1 ci _ hc
  refine W.newcK hx hb hown (hts _ hcl) (hts _ hinst) (hts _ hini) rfl hdg hcells hslots hKn.2.1 rfl fun H1 kC hkC e1 z1 o1 => ?_
  exact kk H.size H1 (hI.fresh (Nat.le_refl _)) (hI.add ⟨_, hc, (u_born ty hts hin hKn hkC e1 hty).to hfs⟩ z1 o1)
theorem g_inst (hx : p.tables.exec = Jvm.exec) (hb : c.code = cc) {own : String} {index : Nat} (hts : ∀ w ∈ wsL_law, w.before args s = true) (hown : s.vm.findClass own = some m.cls) (hK : gK E s) (hI : gI E.1 b0 G0 H0 G H locs) {ci : Nat} {fs : List Value} (t : Nat) (hG : G a = some (.inr (ci, fs))) (hci : ci ∈ gth) (ht : t ∈ gtg) (hlink : (Cond.classLink own index (gtn t)) ∈ wsL_law) (hdg : decode cc pc = .ok (.instanceof index, 3))
    (kk : W p l e R s m args below meth c H locs cells slots Q (F0 m (pc + 3) ls (.int (if gsub ci t = true then 1 else 0) :: rest))) : W p l e R s m args below meth c H locs cells slots Q (F0 m pc ls (.ref a :: rest)) := by
  have h1 := hK.2.2.2 ci hci t ht
  have hq : ∃ q : vw_C, vwCl[ci]? = some q ∧ q.1 = gcn ci := by
    simp only [gth, List.mem_cons, List.not_mem_nil, or_false] at hci
    rcases hci with rfl | rfl | rfl | rfl | rfl | rfl | rfl <;> exact ⟨_, rfl, rfl⟩
  obtain ⟨q, hq1, hq2⟩ := hq
  have hr := g_recv hK hI hG hq1
  rw [hq2] at hr
  by_cases e1 : gsub ci t = true
  · rw [if_pos e1] at h1 kk
    exact va_instY hx hb hown (hts _ hlink) h1 hr hdg kk
  · rw [if_neg e1] at h1 kk
    exact va_instNo hx hb hown (hts _ hlink) h1 hr hdg kk
theorem g_cast (hx : p.tables.exec = Jvm.exec) (hb : c.code = cc) {own : String} {index : Nat} (hts : ∀ w ∈ wsL_law, w.before args s = true) (hown : s.vm.findClass own = some m.cls) (hK : gK E s) (hI : gI E.1 b0 G0 H0 G H locs) {ci : Nat} {fs : List Value} (t : Nat) (hG : G a = some (.inr (ci, fs))) (hci : ci ∈ gth) (ht : t ∈ gtg) (e1 : gsub ci t = true) (hlink : (Cond.classLink own index (gtn t)) ∈ wsL_law) (hdg : decode cc pc = .ok (.checkcast index, 3))
    (kk : W p l e R s m args below meth c H locs cells slots Q (F0 m (pc + 3) ls (.ref a :: rest))) : W p l e R s m args below meth c H locs cells slots Q (F0 m pc ls (.ref a :: rest)) := by
  have h1 := hK.2.2.2 ci hci t ht
  have hq : ∃ q : vw_C, vwCl[ci]? = some q ∧ q.1 = gcn ci := by
    simp only [gth, List.mem_cons, List.not_mem_nil, or_false] at hci
    rcases hci with rfl | rfl | rfl | rfl | rfl | rfl | rfl <;> exact ⟨_, rfl, rfl⟩
  obtain ⟨q, hq1, hq2⟩ := hq
  have hr := g_recv hK hI hG hq1
  rw [hq2] at hr
  rw [if_pos e1] at h1
  exact va_castY hx hb hown (hts _ hlink) h1 hr hdg kk
theorem g_aload_n (hx : p.tables.exec = Jvm.exec) (hb : c.code = cc) {k : Fin 4} {i : Nat} {o : Option Nat} (hdg : decode cc pc = .ok (.aload_n k, 1)) (hi : (k : Nat) = i) (hl : ls[i]? = some (.val (va_rf o))) (kk : W p l e R s m args below meth c H locs cells slots Q (F0 m (pc + 1) ls (va_rf o :: rest))) : W p l e R s m args below meth c H locs cells slots Q (F0 m pc ls rest) := by
  cases o with
  | none => exact lv_aload_nN hx hb hdg hi hl kk
  | some v => exact lv_aload_n hx hb hdg hi hl kk
theorem g_aload (hx : p.tables.exec = Jvm.exec) (hb : c.code = cc) {i : Nat} {o : Option Nat} (hdg : decode cc pc = .ok (.aload i, 2)) (hl : ls[i]? = some (.val (va_rf o))) (kk : W p l e R s m args below meth c H locs cells slots Q (F0 m (pc + 2) ls (va_rf o :: rest))) : W p l e R s m args below meth c H locs cells slots Q (F0 m pc ls rest) := by
  cases o with
  | none => exact lv_aloadN hx hb hdg hl kk
  | some v => exact lv_aload hx hb hdg hl kk
theorem g_astore_n (hx : p.tables.exec = Jvm.exec) (hb : c.code = cc) {k : Fin 4} {i nL : Nat} {o : Option Nat} {lv lv' : List (Nat × Value)} (hdg : decode cc pc = .ok (.astore_n k, 1)) (hi : (k : Nat) = i) (h : lv_has ls nL lv) (hn : i < nL) (hl : (i, va_rf o) :: lv.filter (fun q => !(q.1 == i) && !(q.1 + 1 == i && q.2.category == 2)) = lv')
    (kk : ∀ ls' : Array Slot, lv_has ls' nL lv' → W p l e R s m args below meth c H locs cells slots Q (F0 m (pc + 1) ls' rest)) : W p l e R s m args below meth c H locs cells slots Q (F0 m pc ls (va_rf o :: rest)) := by
  cases o with
  | none => exact lv_astore_nN hx hb hdg hi h hn hl kk
  | some v => exact lv_astore_n hx hb hdg hi h hn hl kk
theorem g_astore (hx : p.tables.exec = Jvm.exec) (hb : c.code = cc) {i nL : Nat} {o : Option Nat} {lv lv' : List (Nat × Value)} (hdg : decode cc pc = .ok (.astore i, 2)) (h : lv_has ls nL lv) (hn : i < nL) (hl : (i, va_rf o) :: lv.filter (fun q => !(q.1 == i) && !(q.1 + 1 == i && q.2.category == 2)) = lv')
    (kk : ∀ ls' : Array Slot, lv_has ls' nL lv' → W p l e R s m args below meth c H locs cells slots Q (F0 m (pc + 2) ls' rest)) : W p l e R s m args below meth c H locs cells slots Q (F0 m pc ls (va_rf o :: rest)) := by
  cases o with
  | none => exact lv_astoreN hx hb hdg h hn hl kk
  | some v => exact lv_astore hx hb hdg h hn hl kk
theorem g_ifnull (hx : p.tables.exec = Jvm.exec) (hb : c.code = cc) {o : Option Nat} {off : Int} {tgt : Nat} (hdg : decode cc pc = .ok (.ifnull off, 3)) (ht : (pc : Int) + off = (tgt : Int)) (kt : o = none → W p l e R s m args below meth c H locs cells slots Q (F0 m tgt ls rest)) (kf : ∀ v : Nat, o = some v → W p l e R s m args below meth c H locs cells slots Q (F0 m (pc + 3) ls rest)) : W p l e R s m args below meth c H locs cells slots Q (F0 m pc ls (va_rf o :: rest)) := by
  cases o with
  | none => exact lv_ifnullN hx hb hdg ht (kt rfl)
  | some v => exact lv_ifnull hx hb hdg (kf v rfl)
theorem g_ifnonnull (hx : p.tables.exec = Jvm.exec) (hb : c.code = cc) {o : Option Nat} {off : Int} {tgt : Nat} (hdg : decode cc pc = .ok (.ifnonnull off, 3)) (ht : (pc : Int) + off = (tgt : Int)) (kt : ∀ v : Nat, o = some v → W p l e R s m args below meth c H locs cells slots Q (F0 m tgt ls rest)) (kf : o = none → W p l e R s m args below meth c H locs cells slots Q (F0 m (pc + 3) ls rest)) : W p l e R s m args below meth c H locs cells slots Q (F0 m pc ls (va_rf o :: rest)) := by
  cases o with
  | none => exact lv_ifnonnullN hx hb hdg (kf rfl)
  | some v => exact lv_ifnonnull hx hb hdg ht (kt v rfl)
end GR
