theorem goodU {own : String} {idx : Nat} {C owner : String} {x y2 : MethodName} {cb2 : ByteArray} {n2 : Nat} {ret2 : Option FieldType} (m1 : Cond.methodLink own idx x ∈ wsL_law) (m6 : Cond.sameMethod x.cls owner x.name x.desc ∈ wsL_law) (m5 : Cond.selects C x y2 ∈ wsL_law) (m2 : Cond.instanceMethod y2 ∈ wsL_law) (m3 : Cond.initialized y2.cls ∈ wsL_law) (h : Cond.code y2 cb2 n2 ret2 ∈ wsL_law) : GoodIn wsL_law (va_wsU own idx C owner x y2 (wsW y2 cb2 n2 ret2)) := by
  intro w hw
  rcases List.mem_append.mp hw with q | q
  · simp only [List.mem_cons, List.not_mem_nil, or_false] at q
    rcases q with rfl | rfl | rfl | rfl | rfl
    · exact ⟨m1, good_law _ m1⟩
    · exact ⟨m6, good_law _ m6⟩
    · exact ⟨m5, good_law _ m5⟩
    · exact ⟨m2, good_law _ m2⟩
    · exact ⟨m3, good_law _ m3⟩
  · exact goodL h w q
section GU
variable {p : Program} {l : Launch} {e : Env} {R : Room} {s : State} {m : MethodId} {args : Array Value} {below : List Frame} {meth : Method} {c : Code} {H : Heap} {locs : List Loc} {cells slots : Nat} {Q : State → Prop}
variable {cc : ByteArray} {pc : Nat} {ls : Array Slot} {rest : List Value} {E : gE} {b0 : Nat} {G0 G : gG} {H0 : Heap} {a : Nat}
theorem g_callU {x y : MethodName} {bytes : ByteArray} {own owner : String} {maxL nL lv mc ms n index b ci : Nat} {fs : List Value} {q : vw_C} {ret : Option FieldType} {As : List Value} {post : Option Value → gG → Prop} {st0 : List Value} (hx : p.tables.exec = Jvm.exec) (hb : c.code = cc) (hml : c.maxLocals = nL) (hown : s.vm.findClass own = some m.cls) (hts : ∀ w ∈ wsL_law, w.before args s = true)
    (hM : gM l y bytes maxL ret lv mc ms E b0 G (.ref b :: As) post) (hG : G b = some (.inr (ci, fs))) (hc : vwCl[ci]? = some q) (hz : va_Nw (.declares ⟨owner, x.name, x.desc⟩) s) (m1 : Cond.methodLink own index x ∈ wsL_law) (m6 : Cond.sameMethod x.cls owner x.name x.desc ∈ wsL_law) (m5 : Cond.selects q.1 x y ∈ wsL_law) (m2 : Cond.instanceMethod y ∈ wsL_law) (m3 : Cond.initialized y.cls ∈ wsL_law) (m4 : Cond.code y bytes maxL ret ∈ wsL_law) (hd : owner ≠ "java/lang/invoke/MethodHandle" ∧ owner ≠ "java/lang/invoke/VarHandle" ∧ (parseMethodDescriptor x.desc).map (fun d => d.parameters.length) = some n)
    (hR : lv + 1 ≤ R.frames ∧ 8 + (maxL + 11) + 30 * lv ≤ R.locals) (hf : cells + mc ≤ R.cells ∧ slots + ms ≤ R.slots) (hn : As.length = n) (hsize : ls.size = nL) (hstack : st0 = As.reverse ++ .ref b :: rest) (hW : (rest.map fun v => v.category).sum ≤ 8) (hdg : decode cc pc = .ok (.invokevirtual index, 3)) (hK : gK E s) (hI : gI E.1 b0 G0 H0 G H locs)
    (kk : ∀ (r : Option Value) (G1 : gG) (H1 : Heap) (locs1 : List Loc), post r G1 → gI E.1 b0 G0 H0 G1 H1 locs1 → W p l e R s m args below meth c H1 locs1 (cells + mc) (slots + ms) Q (F0 m (pc + 3) ls (r.toList ++ rest))) : W p l e R s m args below meth c H locs cells slots Q (F0 m pc ls st0) :=
  g_go (va_runU (Ts := wsL_law) (own := own) (C := q.1) (owner := owner) (x := x) ⟨hx, hb, hml, hown, hts⟩ hM (va_cwA n hts (goodU m1 m6 m5 m2 m3 m4) rfl rfl rfl hz hd hR) ⟨gP.blind, g_recv hK hI hG hc, (g_pre hK hI).2⟩ rfl hn hsize hstack (lv_room hW) hdg hf) hI kk
end GU
theorem u2_id0 (B : gA) (k t : Nat) : u2 B k t (B k t + 0) = B := by
  funext a b
  simp only [u2, Int32.add_zero]
  by_cases h : a = k ∧ b = t
  · rw [if_pos h, h.1, h.2]
  · rw [if_neg h]
theorem eqb34 {v : Int32} (h : eqb v 3 = true) : eqb v 4 = false := by rw [eqb_i.mp h]; decide
theorem eqb43 {v : Int32} (h : eqb v 4 = true) : eqb v 3 = false := by rw [eqb_i.mp h]; decide
theorem inb_i {i : Nat} {y : Int32} (h5 : ¬ y < 0) (h : i < ix y) (hi : ix y ≤ 30) : inb (nI i) 0 (y - 1) = true := by
  rw [inb_n h5]
  have e : y = nI (ix y) := (nIix h5).symm
  rw [e]
  simp [nI_pos (show i < 2 ^ 31 by omega), nI_lt (show i < ix y by omega) (by omega)]
theorem SW.len30 {E : gE} {x : Nat} {aa : Nat → Nat} {A : gA} {n : Nat} {G : gG} (hS : SW E x aa A n G) (hn : n < 600) {w : Int32} (hw : tv n w) : ix (A 5 (ix w)) ≤ 30 ∧ ∀ i, i ≤ ix (A 5 (ix w)) → (nI i < A 5 (ix w) ↔ i < ix (A 5 (ix w))) := rowlen (hS.1.2.2.2.1 _ (hw.ixle hn).1)
set_option maxHeartbeats 4000000 in
set_option maxRecDepth 100000 in
theorem c_X8_canCareFor_n (l : Launch) (E : gE) (b0 : Nat) (G : gG) (a r0 : Nat) : gM l yX8_canCareFor cX8_canCareFor 2 (some .boolean) 0 0 0 E b0 G [.ref a, .null] (pI (fun v9 G1 => v9 = 1 ∧ G1 = G)) := by
  refine gM.of (by decide +kernel) (Nat.le_of_ble_eq_true rfl) ?_
  intro pP eP sP mI bP meth cP ls hx hb hr hml hown hlocks hnm hts hK hI hl
  have hl : lv_has ls 2 [(0, .ref a), (1, .null)] := hl
  have hown : sP.vm.findClass RX8 = some mI.cls := hown
  refine lv_iconst (v := 1) hx hb dX8_canCareFor_0 (by decide) ?_
  exact g_zret hx hb hr hlocks hI rfl ⟨_, rfl, rfl, rfl⟩ dX8_canCareFor_1 (Nat.le_of_ble_eq_true rfl) (Nat.le_of_ble_eq_true rfl)
set_option maxHeartbeats 4000000 in
set_option maxRecDepth 100000 in
theorem c_X8_canCareFor_r (l : Launch) (E : gE) (b0 : Nat) (G : gG) (a r0 : Nat) : gM l yX8_canCareFor cX8_canCareFor 2 (some .boolean) 0 0 0 E b0 G [.ref a, .ref r0] (pI (fun v9 G1 => v9 = 1 ∧ G1 = G)) := by
  refine gM.of (by decide +kernel) (Nat.le_of_ble_eq_true rfl) ?_
  intro pP eP sP mI bP meth cP ls hx hb hr hml hown hlocks hnm hts hK hI hl
  have hl : lv_has ls 2 [(0, .ref a), (1, .ref r0)] := hl
  have hown : sP.vm.findClass RX8 = some mI.cls := hown
  refine lv_iconst (v := 1) hx hb dX8_canCareFor_0 (by decide) ?_
  exact g_zret hx hb hr hlocks hI rfl ⟨_, rfl, rfl, rfl⟩ dX8_canCareFor_1 (Nat.le_of_ble_eq_true rfl) (Nat.le_of_ble_eq_true rfl)
set_option maxHeartbeats 4000000 in
set_option maxRecDepth 100000 in
theorem c_X3_canCareFor_n (l : Launch) (E : gE) (b0 : Nat) (G : gG) (a r0 : Nat) : gM l yX3_canCareFor cX3_canCareFor 2 (some .boolean) 0 0 0 E b0 G [.ref a, .null] (pI (fun v9 G1 => v9 = 0 ∧ G1 = G)) := by
  refine gM.of (by decide +kernel) (Nat.le_of_ble_eq_true rfl) ?_
  intro pP eP sP mI bP meth cP ls hx hb hr hml hown hlocks hnm hts hK hI hl
  have hl : lv_has ls 2 [(0, .ref a), (1, .null)] := hl
  have hown : sP.vm.findClass RX3 = some mI.cls := hown
  refine lv_aload_nN hx hb dX3_canCareFor_0 rfl (lv_at hl 1 rfl) ?_
  refine lv_ifnullN (tgt := 8) hx hb dX3_canCareFor_1 (by decide) ?_
  refine lv_iconst (v := 0) hx hb dX3_canCareFor_8 (by decide) ?_
  exact g_zret hx hb hr hlocks hI rfl ⟨_, rfl, rfl, rfl⟩ dX3_canCareFor_9 (Nat.le_of_ble_eq_true rfl) (Nat.le_of_ble_eq_true rfl)
set_option maxHeartbeats 4000000 in
set_option maxRecDepth 100000 in
theorem c_X3_canCareFor_r (l : Launch) (E : gE) (b0 : Nat) (G : gG) (a r0 : Nat) : gM l yX3_canCareFor cX3_canCareFor 2 (some .boolean) 0 0 0 E b0 G [.ref a, .ref r0] (pI (fun v9 G1 => v9 = 1 ∧ G1 = G)) := by
  refine gM.of (by decide +kernel) (Nat.le_of_ble_eq_true rfl) ?_
  intro pP eP sP mI bP meth cP ls hx hb hr hml hown hlocks hnm hts hK hI hl
  have hl : lv_has ls 2 [(0, .ref a), (1, .ref r0)] := hl
  have hown : sP.vm.findClass RX3 = some mI.cls := hown
  refine lv_aload_n hx hb dX3_canCareFor_0 rfl (lv_at hl 1 rfl) ?_
  refine lv_ifnull hx hb dX3_canCareFor_1 ?_
  refine lv_iconst (v := 1) hx hb dX3_canCareFor_4 (by decide) ?_
  refine lv_goto (tgt := 9) hx hb dX3_canCareFor_5 (by decide) ?_
  exact g_zret hx hb hr hlocks hI rfl ⟨_, rfl, rfl, rfl⟩ dX3_canCareFor_9 (Nat.le_of_ble_eq_true rfl) (Nat.le_of_ble_eq_true rfl)
set_option maxHeartbeats 4000000 in
set_option maxRecDepth 100000 in
theorem c_X8_careFor_n (l : Launch) (E : gE) (b0 : Nat) (G : gG) (x : Nat) (aa : Nat → Nat) (A : gA) (nn : Nat) (hS : SW E x aa A nn G) (hn : nn < 600) (h n : Int32) (hh : tv nn h) (hh0 : eqb h 0 = false) (hk : tv nn (A 11 (ix h))) (hk0 : eqb (A 11 (ix h)) 0 = false) (r0 : Nat) (hso : eqb (A 2 (ix (A 11 (ix h)))) 3 = true) : gM l yX8_careFor cX8_careFor 3 (some .int) 0 0 0 E b0 G [.ref (aa (4 * ix (A 11 (ix h)))), .null, .int n] (pI (fun v9 G1 => v9 = (sp_tended A h n).1 ∧ SW E x aa (sp_tended A h n).2 nn G1)) := by
  refine gM.of (by decide +kernel) (Nat.le_of_ble_eq_true rfl) ?_
  intro pP eP sP mI bP meth cP ls hx hb hr hml hown hlocks hnm hts hK hI hl
  have hl : lv_has ls 3 [(0, .ref (aa (4 * ix (A 11 (ix h))))), (1, .null), (2, .int n)] := hl
  have hown : sP.vm.findClass RX8 = some mI.cls := hown
  refine lv_aload_n hx hb dX8_careFor_0 rfl (lv_at hl 0 rfl) ?_
  refine lv_dup hx hb dX8_careFor_1 rfl ?_
  refine g_get (index := 9) (ci := 7) hx hb hts inlX8 hown hK hI (((hS.at hn hk hk0)).trans (congrArg some (thc_3 hso))) rfl 0 (by decide) m_fl_X8_9 (u_same (hts _ m_sf_X8_care)) rfl dX8_careFor_2 ?_
  refine lv_iload_n hx hb dX8_careFor_5 rfl (lv_at hl 2 rfl) ?_
  refine lv_iadd hx hb dX8_careFor_6 ?_
  refine g_put (index := 9) (ci := 7) hx hb hts inlX8 tyX8 tyX8_ok nmX8 hown hK hI (((hS.at hn hk hk0)).trans (congrArg some (thc_3 hso))) rfl 0 (by decide) m_fl_X8_9 (u_same (hts _ m_sf_X8_care)) rfl rfl rfl (Nat.le_of_ble_eq_true rfl) dX8_careFor_7 (fun H1 L1 hI => ?_)
  have hS := SW.p34 hS 3 (by decide) (ix (A 11 (ix h))) (hk.pos hn hk0) (hk.ixle hn).1 ((A 3 (ix (A 11 (ix h)))) + n) (p34y_3_3 hso)
  refine W.eq (g2 := F0 mI 10 ls []) rfl ?_
  refine lv_aload_n hx hb dX8_careFor_10 rfl (lv_at hl 0 rfl) ?_
  refine g_get (index := 9) (ci := 7) hx hb hts inlX8 hown hK hI (((hS.at hn hk hk0)).trans (congrArg some (thc_3 hso))) rfl 0 (by decide) m_fl_X8_9 (u_same (hts _ m_sf_X8_care)) rfl dX8_careFor_11 ?_
  have e9 : sp_tended A h n = (((u2 A 3 (ix (A 11 (ix h))) ((A 3 (ix (A 11 (ix h)))) + n)) 3 (ix (A 11 (ix h)))), (u2 A 3 (ix (A 11 (ix h))) ((A 3 (ix (A 11 (ix h)))) + n))) := by simp only [sp_tended, hso, reduceIte]
  exact g_iret hx hb hr hlocks hI ⟨_, rfl, by rw [e9], by rw [e9]; exact hS⟩ dX8_careFor_14 (Nat.le_of_ble_eq_true rfl) (Nat.le_of_ble_eq_true rfl)
set_option maxHeartbeats 4000000 in
set_option maxRecDepth 100000 in
theorem c_X8_careFor_r (l : Launch) (E : gE) (b0 : Nat) (G : gG) (x : Nat) (aa : Nat → Nat) (A : gA) (nn : Nat) (hS : SW E x aa A nn G) (hn : nn < 600) (h n : Int32) (hh : tv nn h) (hh0 : eqb h 0 = false) (hk : tv nn (A 11 (ix h))) (hk0 : eqb (A 11 (ix h)) 0 = false) (r0 : Nat) (hso : eqb (A 2 (ix (A 11 (ix h)))) 3 = true) : gM l yX8_careFor cX8_careFor 3 (some .int) 0 0 0 E b0 G [.ref (aa (4 * ix (A 11 (ix h)))), .ref r0, .int n] (pI (fun v9 G1 => v9 = (sp_tended A h n).1 ∧ SW E x aa (sp_tended A h n).2 nn G1)) := by
  refine gM.of (by decide +kernel) (Nat.le_of_ble_eq_true rfl) ?_
  intro pP eP sP mI bP meth cP ls hx hb hr hml hown hlocks hnm hts hK hI hl
  have hl : lv_has ls 3 [(0, .ref (aa (4 * ix (A 11 (ix h))))), (1, .ref r0), (2, .int n)] := hl
  have hown : sP.vm.findClass RX8 = some mI.cls := hown
  refine lv_aload_n hx hb dX8_careFor_0 rfl (lv_at hl 0 rfl) ?_
  refine lv_dup hx hb dX8_careFor_1 rfl ?_
  refine g_get (index := 9) (ci := 7) hx hb hts inlX8 hown hK hI (((hS.at hn hk hk0)).trans (congrArg some (thc_3 hso))) rfl 0 (by decide) m_fl_X8_9 (u_same (hts _ m_sf_X8_care)) rfl dX8_careFor_2 ?_
  refine lv_iload_n hx hb dX8_careFor_5 rfl (lv_at hl 2 rfl) ?_
  refine lv_iadd hx hb dX8_careFor_6 ?_
  refine g_put (index := 9) (ci := 7) hx hb hts inlX8 tyX8 tyX8_ok nmX8 hown hK hI (((hS.at hn hk hk0)).trans (congrArg some (thc_3 hso))) rfl 0 (by decide) m_fl_X8_9 (u_same (hts _ m_sf_X8_care)) rfl rfl rfl (Nat.le_of_ble_eq_true rfl) dX8_careFor_7 (fun H1 L1 hI => ?_)
  have hS := SW.p34 hS 3 (by decide) (ix (A 11 (ix h))) (hk.pos hn hk0) (hk.ixle hn).1 ((A 3 (ix (A 11 (ix h)))) + n) (p34y_3_3 hso)
  refine W.eq (g2 := F0 mI 10 ls []) rfl ?_
  refine lv_aload_n hx hb dX8_careFor_10 rfl (lv_at hl 0 rfl) ?_
  refine g_get (index := 9) (ci := 7) hx hb hts inlX8 hown hK hI (((hS.at hn hk hk0)).trans (congrArg some (thc_3 hso))) rfl 0 (by decide) m_fl_X8_9 (u_same (hts _ m_sf_X8_care)) rfl dX8_careFor_11 ?_
  have e9 : sp_tended A h n = (((u2 A 3 (ix (A 11 (ix h))) ((A 3 (ix (A 11 (ix h)))) + n)) 3 (ix (A 11 (ix h)))), (u2 A 3 (ix (A 11 (ix h))) ((A 3 (ix (A 11 (ix h)))) + n))) := by simp only [sp_tended, hso, reduceIte]
  exact g_iret hx hb hr hlocks hI ⟨_, rfl, by rw [e9], by rw [e9]; exact hS⟩ dX8_careFor_14 (Nat.le_of_ble_eq_true rfl) (Nat.le_of_ble_eq_true rfl)
