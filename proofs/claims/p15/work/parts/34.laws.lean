set_option maxHeartbeats 4000000 in
set_option maxRecDepth 100000 in
theorem law_loop {p : Program} {e : Env} {s : State} {m : MethodId} {below : List Frame} {meth : Method} {c : Code} (l : Launch) {b L : Nat} {xs : Nat → Int32} {E : gE} (hx : p.tables.exec = Jvm.exec) (hb : c.code = code) (hml : c.maxLocals = 4) (hown : s.vm.findClass RL = some m.cls) (hts : ∀ w ∈ wsL_law, w.before #[Value.ref b] s = true) (hX : va_X b L xs s s.heap) (hbl : b < s.heap.size) (hK : gK E s) (hr : meth.sig.returnType = ret) (hlocks : meth.locks = false) {x mo : Nat} (hL : L ≤ 2560) : ∀ (f j nn : Nat) (A : gA) (H : Heap) (locs : List Loc) (ls : Array Slot), L < 5 * (j + f) + 5 → 5 * j ≤ L → nn ≤ j → (j = 0 → A = zA) → LI E s x mo A nn H locs → lv_has ls 4 [(3, .int (nI (5 * j))), (0, .ref b), (1, .ref x), (2, .ref mo)] → W p l e room_1 s m #[Value.ref b] below meth c H locs (17 + 2 * j) (128164 + 160 * j) (lw_Z below #[Value.ref b] s) (F0 m 18 ls []) := by
  have hbA : ¬ (fun q : Nat => s.heap.size ≤ q) b := Nat.not_le.mpr hbl
  intro f
  induction f with
  | zero =>
    intro j nn A H locs ls hf hj hnj hz hIx hl
    have hIx0 := hIx
    obtain ⟨Gc, Gm, aa, ma, hS, hM, hIc, hIm, hd⟩ := hIx0
    refine lv_iload_n hx hb dL_law_18 rfl (lv_at hl 0 rfl) ?_
    refine lv_aload_n hx hb dL_law_19 rfl (lv_at hl 1 rfl) ?_
    refine va_slen hx hb hX hbl hbA (law_S hIc) dL_law_20 ?_
    refine lv_iconst (v := 5) hx hb dL_law_21 (by decide) ?_
    refine lv_isub hx hb dL_law_22 ?_
    refine W.eq (g2 := F0 m 23 ls [.int (nI L - 5), .int (nI (5 * j))]) rfl ?_
    refine lv_icmp_gt (tgt := 887) hx hb dL_law_23 (by decide) (fun c9 => ?_) (fun c9 => ?_)
    · refine lv_iconst (v := 1) hx hb dL_law_887 (by decide) ?_
      refine va_forget (fun q hq => hIc.2.2.2.2.2.2 q hq) ?_
      refine W.widen (k := 600000) (n := 7302250) (by omega) (by omega) ?_
      exact lw_ret hx hb hr hlocks dL_law_888
    · have hJ : 5 * j + 5 ≤ L := Classical.not_not.mp (fun h => absurd ((law_end (by omega) (by omega)).mpr h) c9)
      exact absurd hJ (by omega)
  | succ f ih =>
    intro j nn A H locs ls hf hj hnj hz hIx hl
    have hIx0 := hIx
    obtain ⟨Gc, Gm, aa, ma, hS, hM, hIc, hIm, hd⟩ := hIx0
    refine lv_iload_n hx hb dL_law_18 rfl (lv_at hl 0 rfl) ?_
    refine lv_aload_n hx hb dL_law_19 rfl (lv_at hl 1 rfl) ?_
    refine va_slen hx hb hX hbl hbA (law_S hIc) dL_law_20 ?_
    refine lv_iconst (v := 5) hx hb dL_law_21 (by decide) ?_
    refine lv_isub hx hb dL_law_22 ?_
    refine W.eq (g2 := F0 m 23 ls [.int (nI L - 5), .int (nI (5 * j))]) rfl ?_
    refine lv_icmp_gt (tgt := 887) hx hb dL_law_23 (by decide) (fun c9 => ?_) (fun c9 => ?_)
    · refine lv_iconst (v := 1) hx hb dL_law_887 (by decide) ?_
      refine va_forget (fun q hq => hIc.2.2.2.2.2.2 q hq) ?_
      refine W.widen (k := 600000) (n := 7302250) (by omega) (by omega) ?_
      exact lw_ret hx hb hr hlocks dL_law_888
    · have hJ : 5 * j + 5 ≤ L := Classical.not_not.mp (fun h => absurd ((law_end (by omega) (by omega)).mpr h) c9)
      refine lv_aload_n hx hb dL_law_26 rfl (lv_at hl 1 rfl) ?_
      refine lv_iload_n hx hb dL_law_27 rfl (lv_at hl 0 rfl) ?_
      refine va_sld hx hb hX hbl hbA (law_S hIc) (vp_in_nI (by omega) (by omega)) dL_law_28 ?_
      refine lv_bipush (v := 31) hx hb dL_law_29 (by decide) ?_
      refine lv_iand hx hb dL_law_31 ?_
      have kk : ∀ (A1 : gA) (n1 : Nat) (H1 : Heap) (locs1 : List Loc), n1 ≤ nn + 1 → LI E s x mo A1 n1 H1 locs1 → W p l e room_1 s m #[Value.ref b] below meth c H1 locs1 (17 + 2 * j + 2) (128164 + 160 * j + 160) (lw_Z below #[Value.ref b] s) (F0 m 881 ls []) := by
        intro A1 n1 H1 L1 hn1 hI1
        refine lv_iinc (v := nI (5 * (j + 1))) (lv' := [(3, .int (nI (5 * (j + 1)))), (0, .ref b), (1, .ref x), (2, .ref mo)]) hx hb dL_law_881 hl (k := 0) rfl (nI_add (5 * j) 5) (by decide) rfl (fun ls hl => ?_)
        refine lv_goto (tgt := 18) hx hb dL_law_884 (by decide) ?_
        exact ih (j + 1) n1 A1 H1 L1 ls (by omega) (by omega) (by omega) (fun h => absurd h (by omega)) hI1 hl
      generalize xs (nI (5 * j)).toNatClampNeg &&& 31 = w
      rcases w20 19 w with h | h | ⟨k, hk, rfl⟩
      · refine lv_tableOut (tgt := 881) hx hb dL_law_32 (Or.inl h) (by decide) ?_
        exact W.widen (by omega) (by omega) (kk A nn H locs (by omega) hIx)
      · refine lv_tableOut (tgt := 881) hx hb dL_law_32 (Or.inr h) (by decide) ?_
        exact W.widen (by omega) (by omega) (kk A nn H locs (by omega) hIx)
      · have hk : k = 0 ∨ k = 1 ∨ k = 2 ∨ k = 3 ∨ k = 4 ∨ k = 5 ∨ k = 6 ∨ k = 7 ∨ k = 8 ∨ k = 9 ∨ k = 10 ∨ k = 11 ∨ k = 12 ∨ k = 13 ∨ k = 14 ∨ k = 15 ∨ k = 16 ∨ k = 17 ∨ k = 18 ∨ k = 19 := by omega
        rcases hk with rfl | rfl | rfl | rfl | rfl | rfl | rfl | rfl | rfl | rfl | rfl | rfl | rfl | rfl | rfl | rfl | rfl | rfl | rfl | rfl
        · refine lv_tableIn (off := 96) (tgt := 128) hx hb dL_law_32 (by decide) (by decide) (by decide) (by decide) ?_
          exact law_case_0 l hx hb hml hown hts hX hbl hK hJ (by omega) hnj hz hIx hl (by omega) (by omega) kk
        · refine lv_tableIn (off := 139) (tgt := 171) hx hb dL_law_32 (by decide) (by decide) (by decide) (by decide) ?_
          exact law_case_1 l hx hb hml hown hts hX hbl hK hJ (by omega) hnj hz hIx hl (by omega) (by omega) kk
        · refine lv_tableIn (off := 198) (tgt := 230) hx hb dL_law_32 (by decide) (by decide) (by decide) (by decide) ?_
          exact law_case_2 l hx hb hml hown hts hX hbl hK hJ (by omega) hnj hz hIx hl (by omega) (by omega) kk
        · refine lv_tableIn (off := 231) (tgt := 263) hx hb dL_law_32 (by decide) (by decide) (by decide) (by decide) ?_
          exact law_case_3 l hx hb hml hown hts hX hbl hK hJ (by omega) hnj hz hIx hl (by omega) (by omega) kk
        · refine lv_tableIn (off := 254) (tgt := 286) hx hb dL_law_32 (by decide) (by decide) (by decide) (by decide) ?_
          exact law_case_4 l hx hb hml hown hts hX hbl hK hJ (by omega) hnj hz hIx hl (by omega) (by omega) kk
        · refine lv_tableIn (off := 297) (tgt := 329) hx hb dL_law_32 (by decide) (by decide) (by decide) (by decide) ?_
          exact law_case_5 l hx hb hml hown hts hX hbl hK hJ (by omega) hnj hz hIx hl (by omega) (by omega) kk
        · refine lv_tableIn (off := 330) (tgt := 362) hx hb dL_law_32 (by decide) (by decide) (by decide) (by decide) ?_
          exact law_case_6 l hx hb hml hown hts hX hbl hK hJ (by omega) hnj hz hIx hl (by omega) (by omega) kk
        · refine lv_tableIn (off := 353) (tgt := 385) hx hb dL_law_32 (by decide) (by decide) (by decide) (by decide) ?_
          exact law_case_7 l hx hb hml hown hts hX hbl hK hJ (by omega) hnj hz hIx hl (by omega) (by omega) kk
        · refine lv_tableIn (off := 396) (tgt := 428) hx hb dL_law_32 (by decide) (by decide) (by decide) (by decide) ?_
          exact law_case_8 l hx hb hml hown hts hX hbl hK hJ (by omega) hnj hz hIx hl (by omega) (by omega) kk
        · refine lv_tableIn (off := 439) (tgt := 471) hx hb dL_law_32 (by decide) (by decide) (by decide) (by decide) ?_
          exact law_case_9 l hx hb hml hown hts hX hbl hK hJ (by omega) hnj hz hIx hl (by omega) (by omega) kk
        · refine lv_tableIn (off := 482) (tgt := 514) hx hb dL_law_32 (by decide) (by decide) (by decide) (by decide) ?_
          exact law_case_10 l hx hb hml hown hts hX hbl hK hJ (by omega) hnj hz hIx hl (by omega) (by omega) kk
        · refine lv_tableIn (off := 525) (tgt := 557) hx hb dL_law_32 (by decide) (by decide) (by decide) (by decide) ?_
          exact law_case_11 l hx hb hml hown hts hX hbl hK hJ (by omega) hnj hz hIx hl (by omega) (by omega) kk
        · refine lv_tableIn (off := 568) (tgt := 600) hx hb dL_law_32 (by decide) (by decide) (by decide) (by decide) ?_
          exact law_case_12 l hx hb hml hown hts hX hbl hK hJ (by omega) hnj hz hIx hl (by omega) (by omega) kk
        · refine lv_tableIn (off := 627) (tgt := 659) hx hb dL_law_32 (by decide) (by decide) (by decide) (by decide) ?_
          exact law_case_13 l hx hb hml hown hts hX hbl hK hJ (by omega) hnj hz hIx hl (by omega) (by omega) kk
        · refine lv_tableIn (off := 681) (tgt := 713) hx hb dL_law_32 (by decide) (by decide) (by decide) (by decide) ?_
          exact law_case_14 l hx hb hml hown hts hX hbl hK hJ (by omega) hnj hz hIx hl (by omega) (by omega) kk
        · refine lv_tableIn (off := 714) (tgt := 746) hx hb dL_law_32 (by decide) (by decide) (by decide) (by decide) ?_
          exact law_case_15 l hx hb hml hown hts hX hbl hK hJ (by omega) hnj hz hIx hl (by omega) (by omega) kk
        · refine lv_tableIn (off := 737) (tgt := 769) hx hb dL_law_32 (by decide) (by decide) (by decide) (by decide) ?_
          exact law_case_16 l hx hb hml hown hts hX hbl hK hJ (by omega) hnj hz hIx hl (by omega) (by omega) kk
        · refine lv_tableIn (off := 760) (tgt := 792) hx hb dL_law_32 (by decide) (by decide) (by decide) (by decide) ?_
          exact law_case_17 l hx hb hml hown hts hX hbl hK hJ (by omega) hnj hz hIx hl (by omega) (by omega) kk
        · refine lv_tableIn (off := 793) (tgt := 825) hx hb dL_law_32 (by decide) (by decide) (by decide) (by decide) ?_
          exact law_case_18 l hx hb hml hown hts hX hbl hK hJ (by omega) hnj hz hIx hl (by omega) (by omega) kk
        · refine lv_tableIn (off := 826) (tgt := 858) hx hb dL_law_32 (by decide) (by decide) (by decide) (by decide) ?_
          exact law_case_19 l hx hb hml hown hts hX hbl hK hJ (by omega) hnj hz hIx hl (by omega) (by omega) kk
set_option maxHeartbeats 4000000 in
set_option maxRecDepth 100000 in
theorem law_start {p : Program} {e : Env} {s : State} {m : MethodId} {below : List Frame} {meth : Method} {c : Code} (l : Launch) {b L : Nat} {xs : Nat → Int32} (hL : L ≤ 2560) (C0 : lw_At p s m meth c b L xs) : W p l e room_1 s m #[Value.ref b] below meth c s.heap [] 0 0 (lw_Z below #[Value.ref b] s) (entryFrame m ([Value.ref b] : List Value).toArray 4) := by
  obtain ⟨hx, hb, hr, hml, hown, hts0, hX, hbl, hlocks, hgv⟩ := id C0
  obtain ⟨E, hK⟩ := law_K hts0 hgv
  have hts : ∀ w ∈ wsL_law, w.before #[Value.ref b] s = true := fun w h => hts0 w (wsL_law_in w h)
  have hown : s.vm.findClass RL = some m.cls := hown
  have hl := lv_entry ([.ref b]) (n := 4) (Nat.le_of_ble_eq_true rfl)
  rw [lg_entry_eq]
  generalize (lg_sl ([.ref b]) ++ List.replicate (4 - (lg_sl ([.ref b])).length) Slot.unset).toArray = ls at hl ⊢
  have hl : lv_has ls 4 [(0, .ref b)] := hl
  have hI : gI E.1 s.heap.size gN s.heap gN s.heap [] := gI.start (fun _ _ h => by cases h) (fun q h => absurd rfl h) (Nat.le_refl _)
  refine g_new (index := 7) (ci := 8) (fs := [.null, .null, .int 0]) hx hb hts inlX10 tyX10 tyX10_ok hown m_cl_L_7 m_it_X10 m_in_X10 hK hI rfl (fun j hj => by rcases (show j = 0 ∨ j = 1 ∨ j = 2 by omega) with rfl | rfl | rfl <;> rfl) (Nat.le_of_ble_eq_true rfl) (Nat.le_of_ble_eq_true rfl) dL_law_0 (fun x H hq hI => ?_)
  refine lv_dup hx hb dL_law_3 rfl ?_
  refine g_callI (own := RL) (index := 9) (n := 0) (As := []) (rest := [.ref x]) hx hb hml hown hts (c_X10_init l E _ _ x (gu_s _ _ _)) m_ml_L_9 m_im_X10_init m_in_X10 m_co_X10_init rfl (by decide +kernel) ⟨Nat.le_of_ble_eq_true rfl, Nat.le_of_ble_eq_true rfl⟩ ⟨Nat.le_of_ble_eq_true rfl, Nat.le_of_ble_eq_true rfl⟩ rfl hl.1 rfl (Nat.le_of_ble_eq_true rfl) dL_law_4 hK hI (fun r Gc H locs hp hIc => ?_)
  obtain ⟨rfl, aa, hS⟩ := hp
  refine W.eq (g2 := F0 m 7 ls [.ref x]) rfl ?_
  refine lv_astore_n (lv' := [(1, .ref x), (0, .ref b)]) hx hb dL_law_7 rfl hl (by decide) rfl (fun ls hl => ?_)
  refine g_new (index := 10) (ci := 9) (fs := [.null, .int 0, .null, .null, .null, .null, .null, .null, .null, .null, .null, .null, .null, .null, .int 0]) hx hb hts inlX11 tyX11 tyX11_ok hown m_cl_L_10 m_it_X11 m_in_X11 hK hIc rfl (fun j hj => by rcases (show j = 0 ∨ j = 1 ∨ j = 2 ∨ j = 3 ∨ j = 4 ∨ j = 5 ∨ j = 6 ∨ j = 7 ∨ j = 8 ∨ j = 9 ∨ j = 10 ∨ j = 11 ∨ j = 12 ∨ j = 13 ∨ j = 14 by omega) with rfl | rfl | rfl | rfl | rfl | rfl | rfl | rfl | rfl | rfl | rfl | rfl | rfl | rfl | rfl <;> rfl) (Nat.le_of_ble_eq_true rfl) (Nat.le_of_ble_eq_true rfl) dL_law_8 (fun mo H hq hI => ?_)
  have hIc := hI.sub (G' := Gc) (fun q => by
    by_cases e : q = mo
    · subst e; exact Or.inl hq
    · exact Or.inr (gu_n e).symm)
  have hIm := hI.sub (G' := gu gN mo (.inr (9, [.null, .int 0, .null, .null, .null, .null, .null, .null, .null, .null, .null, .null, .null, .null, .int 0]))) (fun q => by
    by_cases e : q = mo
    · subst e; exact Or.inr (by rw [gu_s, gu_s])
    · exact Or.inl (gu_n e))
  have hd : ∀ q, gu gN mo (.inr (9, [.null, .int 0, .null, .null, .null, .null, .null, .null, .null, .null, .null, .null, .null, .null, .int 0])) q = none ∨ Gc q = none := fun q => by
    by_cases e : q = mo
    · subst e; exact Or.inr hq
    · exact Or.inl (gu_n e)
  refine lv_dup hx hb dL_law_11 rfl ?_
  refine g_callI2 (own := RL) (index := 12) (n := 0) (As := []) (rest := [.ref mo]) hx hb hml hown hts (c_X11_init l E _ _ mo (gu_s _ _ _)) m_ml_L_12 m_im_X11_init m_in_X11 m_co_X11_init rfl (by decide +kernel) ⟨Nat.le_of_ble_eq_true rfl, Nat.le_of_ble_eq_true rfl⟩ ⟨Nat.le_of_ble_eq_true rfl, Nat.le_of_ble_eq_true rfl⟩ rfl hl.1 rfl (Nat.le_of_ble_eq_true rfl) dL_law_12 hK hIm hIc hd (fun r Gm H locs hp hIm hIc hd => ?_)
  obtain ⟨rfl, ma, hM⟩ := hp
  refine W.eq (g2 := F0 m 15 ls [.ref mo]) rfl ?_
  refine lv_astore_n (lv' := [(2, .ref mo), (1, .ref x), (0, .ref b)]) hx hb dL_law_15 rfl hl (by decide) rfl (fun ls hl => ?_)
  refine lv_iconst (v := 0) hx hb dL_law_16 (by decide) ?_
  refine lv_istore_n (lv' := [(3, .int 0), (2, .ref mo), (1, .ref x), (0, .ref b)]) hx hb dL_law_17 rfl hl (by decide) rfl (fun ls hl => ?_)
  exact law_loop l hx hb hml hown hts hX hbl hK hr hlocks hL (L + 1) 0 0 zA _ _ ls (by omega) (by omega) (by omega) (fun _ => rfl) ⟨Gc, Gm, aa, ma, hS, hM, hIc, hIm, fun q => (hd q).symm⟩ (lv_sub hl [0, 3, 2, 1] rfl)
