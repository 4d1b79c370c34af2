abbrev zA : gA := fun _ _ => 0
theorem zA_wf : wf zA 0 := by
  refine ⟨nI_0.symm, fun _ _ => ⟨0, Nat.le_refl _, nI_0.symm⟩, fun _ _ _ _ _ => ⟨0, Nat.le_refl _, nI_0.symm⟩, fun _ _ => Or.inr ⟨0, by decide, nI_0.symm⟩, fun _ _ => ⟨0, Nat.le_refl _, nI_0.symm⟩, fun _ _ => ⟨0, Nat.le_refl _, nI_0.symm⟩, fun _ _ => ⟨0, Nat.le_refl _, nI_0.symm⟩, fun _ _ => Or.inr ⟨0, by decide, nI_0.symm⟩, fun _ _ => ⟨0, by decide, nI_0.symm⟩⟩
theorem sw0 {E : gE} {x q1 q2 : Nat} {G1 : gG} (n1 : x ≠ q1) (n2 : x ≠ q2) (n3 : q1 ≠ q2) (h0 : G1 x = some (.inr (8, [.ref q1, .ref q2, .int 0]))) (h1 : G1 q1 = some (.inl (E.2.2.1, 16, .inr (.inr (.inr (.inr (fun _ => none))))))) (h2 : G1 q2 = some (.inl (E.2.1, 7, .inl (fun _ => 0)))) : SW E x (fun c => if c = 0 then x else if c = 1 then q1 else q2) zA 0 G1 := by
  refine ⟨zA_wf, ⟨fun t a b => by omega, fun t a b => by omega, fun t a b => by omega, fun t a b => by omega⟩, rfl, h0, ?_, h2, fun t a b => by omega, fun t a b => by omega, fun t a b => by omega, fun c d hc hd e => ?_⟩
  · show G1 q1 = _
    rw [h1]
    have : shf (fun c => if c = 0 then x else if c = 1 then q1 else q2) zA = fun _ => none := by
      funext k
      unfold shf
      split
      · exact adr_n eqb_00
      · rfl
    rw [sc, this]
  · have hc : c = 0 ∨ c = 1 ∨ c = 2 := by
      rcases hc with h | ⟨t, a, b, -⟩ <;> omega
    have hd : d = 0 ∨ d = 1 ∨ d = 2 := by
      rcases hd with h | ⟨t, a, b, -⟩ <;> omega
    rcases hc with rfl | rfl | rfl <;> rcases hd with rfl | rfl | rfl <;> first | rfl | exact absurd e n1 | exact absurd e n2 | exact absurd e n3 | exact absurd e.symm n1 | exact absurd e.symm n2 | exact absurd e.symm n3
def gCon (E : gE) (mo : Nat) (fs : List Value) (L : List (Nat × Nat)) (G : gG) : Prop := G mo = some (.inr (9, fs)) ∧ (∀ p ∈ L, G p.2 = some (.inl (E.2.1, lnA p.1, .inl (fun _ => 0)))) ∧ ∀ p ∈ L, ∀ p' ∈ L, p.2 = p'.2 → p.1 = p'.1
theorem gCon.add {E : gE} {mo q N k : Nat} {fs fs' : List Value} {L : List (Nat × Nat)} {G : gG} (h : gCon E mo fs L G) (hq : G q = none) (hN : N = lnA k) : gCon E mo fs' ((k, q) :: L) (gu (gu G q (.inl (E.2.1, N, .inl (fun _ => 0)))) mo (.inr (9, fs'))) := by
  obtain ⟨h1, h2, h3⟩ := h
  have hne : q ≠ mo := ne_o hq h1
  have hnp : ∀ p ∈ L, p.2 ≠ q := fun p hp e => by rw [← e, h2 p hp] at hq; cases hq
  have hnm : ∀ p ∈ L, p.2 ≠ mo := fun p hp e => by
    have := h2 p hp
    rw [e, h1] at this
    cases this
  refine ⟨gu_s _ _ _, fun p hp => ?_, fun p hp p' hp' e => ?_⟩
  · rcases List.mem_cons.mp hp with rfl | hp
    · rw [gu_n hne, gu_s, hN]
    · rw [gu_n (hnm p hp), gu_n (hnp p hp), h2 p hp]
  · rcases List.mem_cons.mp hp with rfl | hp <;> rcases List.mem_cons.mp hp' with rfl | hp'
    · rfl
    · exact absurd e.symm (hnp p' hp')
    · exact absurd e (hnp p hp)
    · exact h3 p hp p' hp' e
theorem gCon.done {E : gE} {mo q0 q2 q3 q4 q5 q6 q7 q8 q9 q10 q11 q12 q13 : Nat} {G : gG} (h : gCon E mo [.ref q0, .int 0, .ref q2, .ref q3, .ref q4, .ref q5, .ref q6, .ref q7, .ref q8, .ref q9, .ref q10, .ref q11, .ref q12, .ref q13, .int 0] [(13, q13), (12, q12), (11, q11), (10, q10), (9, q9), (8, q8), (7, q7), (6, q6), (5, q5), (4, q4), (3, q3), (2, q2), (0, q0)] G) : ∃ ma, gMod E mo ma zA G := by
  let ma : Nat → Nat := fun k => match k with
    | 0 => q0
    | 2 => q2
    | 3 => q3
    | 4 => q4
    | 5 => q5
    | 6 => q6
    | 7 => q7
    | 8 => q8
    | 9 => q9
    | 10 => q10
    | 11 => q11
    | 12 => q12
    | _ => q13
  have hm : ∀ k ∈ mrw, (k, ma k) ∈ [(13, q13), (12, q12), (11, q11), (10, q10), (9, q9), (8, q8), (7, q7), (6, q6), (5, q5), (4, q4), (3, q3), (2, q2), (0, q0)] := by
    intro k hk
    simp only [mrw, List.mem_cons, List.not_mem_nil, or_false] at hk
    rcases hk with rfl | rfl | rfl | rfl | rfl | rfl | rfl | rfl | rfl | rfl | rfl | rfl | rfl <;> simp [ma]
  exact ⟨ma, h.1, fun k hk => h.2.1 (k, ma k) (hm k hk), fun j hj k hk e => h.2.2 _ (hm j hj) _ (hm k hk) e⟩
set_option maxHeartbeats 4000000 in
set_option maxRecDepth 100000 in
theorem c_X10_init (l : Launch) (E : gE) (b0 : Nat) (G : gG) (x : Nat) (hG : G x = some (.inr (8, [.null, .null, .int 0]))) : gM l yX10_init cX10_init 1 none 1 2 23 E b0 G [.ref x] (pV (fun G1 => ∃ aa, SW E x aa zA 0 G1)) := by
  refine gM.of (by decide +kernel) (Nat.le_of_ble_eq_true rfl) ?_
  intro pP eP sP mI bP meth cP ls hx hb hr hml hown hlocks hnm hts hK hI hl
  have hl : lv_has ls 1 [(0, .ref x)] := hl
  have hown : sP.vm.findClass RX10 = some mI.cls := hown
  refine lv_aload_n hx hb dX10_init_0 rfl (lv_at hl 0 rfl) ?_
  refine W.objInit hx hb hown (hts _ m_ml_X10_3) (hts _ m_im_objectInit) (hts _ m_co_objectInit) rfl (by rw [hml]; exact hl.1) rfl dX10_init_1 (Nat.le_of_ble_eq_true rfl) (Nat.le_of_ble_eq_true rfl) ?_
  refine W.eq (g2 := F0 mI 4 ls []) rfl ?_
  refine lv_aload_n hx hb dX10_init_4 rfl (lv_at hl 0 rfl) ?_
  refine lv_bipush (v := 16) hx hb dX10_init_5 (by decide) ?_
  refine g_newq hx hb hts hK hI 1 rfl hown m_cl_X10_9 hK.2.1.1 16 (by decide) rfl (by decide) (Nat.le_of_ble_eq_true rfl) (Nat.le_of_ble_eq_true rfl) dX10_init_7 (fun q1 H1 hq1 hI => ?_)
  refine W.eq (g2 := F0 mI 10 ls [.ref q1, .ref x]) rfl ?_
  refine g_putF (index := 11) (ci := 8) hx hb hts inlX10 tyX10 tyX10_ok nmX10 hown hK hI (gu_o hq1 hG) rfl 0 (by decide) m_fl_X10_11 (fun _ h9 => h9) rfl hnm rfl rfl rfl (Nat.le_of_ble_eq_true rfl) dX10_init_10 (fun H1 L1 hI => ?_)
  refine W.eq (g2 := F0 mI 13 ls []) rfl ?_
  refine lv_aload_n hx hb dX10_init_13 rfl (lv_at hl 0 rfl) ?_
  refine lv_bipush (v := 7) hx hb dX10_init_14 (by decide) ?_
  refine g_newi hx hb hts hK hI 7 (by decide) rfl (by decide) (Nat.le_of_ble_eq_true rfl) (Nat.le_of_ble_eq_true rfl) m_ac_int dX10_init_16 (fun q2 H1 hq2 hI => ?_)
  refine W.eq (g2 := F0 mI 18 ls [.ref q2, .ref x]) rfl ?_
  refine g_putF (index := 15) (ci := 8) hx hb hts inlX10 tyX10 tyX10_ok nmX10 hown hK hI (gu_o hq2 (gu_s _ _ _)) rfl 1 (by decide) m_fl_X10_15 (fun _ h9 => h9) rfl hnm rfl rfl rfl (Nat.le_of_ble_eq_true rfl) dX10_init_18 (fun H1 L1 hI => ?_)
  refine W.eq (g2 := F0 mI 21 ls []) rfl ?_
  refine lv_aload_n hx hb dX10_init_21 rfl (lv_at hl 0 rfl) ?_
  refine lv_iconst (v := 0) hx hb dX10_init_22 (by decide) ?_
  refine g_put (index := 19) (ci := 8) hx hb hts inlX10 tyX10 tyX10_ok nmX10 hown hK hI (gu_s _ _ _) rfl 2 (by decide) m_fl_X10_19 (fun _ h9 => h9) rfl rfl rfl (Nat.le_of_ble_eq_true rfl) dX10_init_23 (fun H1 L1 hI => ?_)
  refine W.eq (g2 := F0 mI 26 ls []) rfl ?_
  have n1 : q1 ≠ x := ne_o hq1 hG
  have n2 : q2 ≠ x := ne_o hq2 (gu_s _ _ _)
  have n3 : q2 ≠ q1 := ne_o (y := .inl (E.2.2.1, 16, .inr (.inr (.inr (.inr (fun _ => none)))))) hq2 (by rw [gu_n n1, gu_s])
  exact g_vret hx hb hr hlocks hI ⟨rfl, _, sw0 n1.symm n2.symm n3.symm (gu_s _ _ _) (by rw [gu_n n1, gu_n n1, gu_n n3.symm, gu_n n1, gu_s]) (by rw [gu_n n2, gu_n n2, gu_s])⟩ dX10_init_26 (by omega) (by omega)
set_option maxHeartbeats 4000000 in
set_option maxRecDepth 100000 in
theorem c_X11_init (l : Launch) (E : gE) (b0 : Nat) (G : gG) (mo : Nat) (hG : G mo = some (.inr (9, [.null, .int 0, .null, .null, .null, .null, .null, .null, .null, .null, .null, .null, .null, .null, .int 0]))) : gM l yX11_init cX11_init 1 none 1 13 128123 E b0 G [.ref mo] (pV (fun G1 => ∃ ma, gMod E mo ma zA G1)) := by
  have hC : gCon E mo [.null, .int 0, .null, .null, .null, .null, .null, .null, .null, .null, .null, .null, .null, .null, .int 0] [] G := ⟨hG, fun p hp => (by cases hp), fun p hp => (by cases hp)⟩
  refine gM.of (by decide +kernel) (Nat.le_of_ble_eq_true rfl) ?_
  intro pP eP sP mI bP meth cP ls hx hb hr hml hown hlocks hnm hts hK hI hl
  have hl : lv_has ls 1 [(0, .ref mo)] := hl
  have hown : sP.vm.findClass RX11 = some mI.cls := hown
  refine lv_aload_n hx hb dX11_init_0 rfl (lv_at hl 0 rfl) ?_
  refine W.objInit hx hb hown (hts _ m_ml_X11_1) (hts _ m_im_objectInit) (hts _ m_co_objectInit) rfl (by rw [hml]; exact hl.1) rfl dX11_init_1 (Nat.le_of_ble_eq_true rfl) (Nat.le_of_ble_eq_true rfl) ?_
  refine W.eq (g2 := F0 mI 4 ls []) rfl ?_
  refine lv_aload_n hx hb dX11_init_4 rfl (lv_at hl 0 rfl) ?_
  refine lv_bipush (v := 16) hx hb dX11_init_5 (by decide) ?_
  refine g_newi (R := rmL 1 13 128123) (cells := 0) (slots := 0) (n := 16) hx hb hts hK hI 16 (by decide) rfl (by decide) (Nat.le_of_ble_eq_true rfl) (Nat.le_of_ble_eq_true rfl) m_ac_int dX11_init_7 (fun q0 H1 hq hI => ?_)
  refine W.eq (g2 := F0 mI 9 ls [.ref q0, .ref mo]) rfl ?_
  refine g_putF (index := 7) (ci := 9) hx hb hts inlX11 tyX11 tyX11_ok nmX11 hown hK hI (gu_o hq hC.1) rfl 0 (by decide) m_fl_X11_7 (fun _ h9 => h9) rfl hnm rfl rfl rfl (Nat.le_of_ble_eq_true rfl) dX11_init_9 (fun H1 L1 hI => ?_)
  have hC := gCon.add (N := 16) (k := 0) (fs' := [.ref q0, .int 0, .null, .null, .null, .null, .null, .null, .null, .null, .null, .null, .null, .null, .int 0]) hC hq rfl
  obtain ⟨G1, eG⟩ : ∃ z, z = gu (gu G q0 (.inl (E.2.1, 16, .inl (fun _ => 0)))) mo (.inr (9, [.ref q0, .int 0, .null, .null, .null, .null, .null, .null, .null, .null, .null, .null, .null, .null, .int 0])) := ⟨_, rfl⟩
  replace hI : gI E.1 b0 G sP.heap G1 H1 L1 := by rw [eG]; exact hI
  rw [← eG] at hC
  clear eG hq
  refine W.eq (g2 := F0 mI 12 ls []) rfl ?_
  refine lv_aload_n hx hb dX11_init_12 rfl (lv_at hl 0 rfl) ?_
  refine lv_sipush (v := 700) hx hb dX11_init_13 (by decide) ?_
  refine g_newi (R := rmL 1 13 128123) (cells := 1) (slots := 16) (n := 700) hx hb hts hK hI 700 (by decide) rfl (by decide) (Nat.le_of_ble_eq_true rfl) (Nat.le_of_ble_eq_true rfl) m_ac_int dX11_init_16 (fun q2 H1 hq hI => ?_)
  refine W.eq (g2 := F0 mI 18 ls [.ref q2, .ref mo]) rfl ?_
  refine g_putF (index := 13) (ci := 9) hx hb hts inlX11 tyX11 tyX11_ok nmX11 hown hK hI (gu_o hq hC.1) rfl 2 (by decide) m_fl_X11_13 (fun _ h9 => h9) rfl hnm rfl rfl rfl (Nat.le_of_ble_eq_true rfl) dX11_init_18 (fun H1 L1 hI => ?_)
  have hC := gCon.add (N := 700) (k := 2) (fs' := [.ref q0, .int 0, .ref q2, .null, .null, .null, .null, .null, .null, .null, .null, .null, .null, .null, .int 0]) hC hq rfl
  obtain ⟨G1, eG⟩ : ∃ z, z = gu (gu G1 q2 (.inl (E.2.1, 700, .inl (fun _ => 0)))) mo (.inr (9, [.ref q0, .int 0, .ref q2, .null, .null, .null, .null, .null, .null, .null, .null, .null, .null, .null, .int 0])) := ⟨_, rfl⟩
  replace hI : gI E.1 b0 G sP.heap G1 H1 L1 := by rw [eG]; exact hI
  rw [← eG] at hC
  clear eG hq
  refine W.eq (g2 := F0 mI 21 ls []) rfl ?_
  refine lv_aload_n hx hb dX11_init_21 rfl (lv_at hl 0 rfl) ?_
  refine lv_sipush (v := 700) hx hb dX11_init_22 (by decide) ?_
  refine g_newi (R := rmL 1 13 128123) (cells := 2) (slots := 716) (n := 700) hx hb hts hK hI 700 (by decide) rfl (by decide) (Nat.le_of_ble_eq_true rfl) (Nat.le_of_ble_eq_true rfl) m_ac_int dX11_init_25 (fun q3 H1 hq hI => ?_)
  refine W.eq (g2 := F0 mI 27 ls [.ref q3, .ref mo]) rfl ?_
  refine g_putF (index := 16) (ci := 9) hx hb hts inlX11 tyX11 tyX11_ok nmX11 hown hK hI (gu_o hq hC.1) rfl 3 (by decide) m_fl_X11_16 (fun _ h9 => h9) rfl hnm rfl rfl rfl (Nat.le_of_ble_eq_true rfl) dX11_init_27 (fun H1 L1 hI => ?_)
  have hC := gCon.add (N := 700) (k := 3) (fs' := [.ref q0, .int 0, .ref q2, .ref q3, .null, .null, .null, .null, .null, .null, .null, .null, .null, .null, .int 0]) hC hq rfl
  obtain ⟨G1, eG⟩ : ∃ z, z = gu (gu G1 q3 (.inl (E.2.1, 700, .inl (fun _ => 0)))) mo (.inr (9, [.ref q0, .int 0, .ref q2, .ref q3, .null, .null, .null, .null, .null, .null, .null, .null, .null, .null, .int 0])) := ⟨_, rfl⟩
  replace hI : gI E.1 b0 G sP.heap G1 H1 L1 := by rw [eG]; exact hI
  rw [← eG] at hC
  clear eG hq
  refine W.eq (g2 := F0 mI 30 ls []) rfl ?_
  refine lv_aload_n hx hb dX11_init_30 rfl (lv_at hl 0 rfl) ?_
  refine lv_sipush (v := 700) hx hb dX11_init_31 (by decide) ?_
  refine g_newi (R := rmL 1 13 128123) (cells := 3) (slots := 1416) (n := 700) hx hb hts hK hI 700 (by decide) rfl (by decide) (Nat.le_of_ble_eq_true rfl) (Nat.le_of_ble_eq_true rfl) m_ac_int dX11_init_34 (fun q4 H1 hq hI => ?_)
  refine W.eq (g2 := F0 mI 36 ls [.ref q4, .ref mo]) rfl ?_
  refine g_putF (index := 19) (ci := 9) hx hb hts inlX11 tyX11 tyX11_ok nmX11 hown hK hI (gu_o hq hC.1) rfl 4 (by decide) m_fl_X11_19 (fun _ h9 => h9) rfl hnm rfl rfl rfl (Nat.le_of_ble_eq_true rfl) dX11_init_36 (fun H1 L1 hI => ?_)
  have hC := gCon.add (N := 700) (k := 4) (fs' := [.ref q0, .int 0, .ref q2, .ref q3, .ref q4, .null, .null, .null, .null, .null, .null, .null, .null, .null, .int 0]) hC hq rfl
  obtain ⟨G1, eG⟩ : ∃ z, z = gu (gu G1 q4 (.inl (E.2.1, 700, .inl (fun _ => 0)))) mo (.inr (9, [.ref q0, .int 0, .ref q2, .ref q3, .ref q4, .null, .null, .null, .null, .null, .null, .null, .null, .null, .int 0])) := ⟨_, rfl⟩
  replace hI : gI E.1 b0 G sP.heap G1 H1 L1 := by rw [eG]; exact hI
  rw [← eG] at hC
  clear eG hq
  refine W.eq (g2 := F0 mI 39 ls []) rfl ?_
  refine lv_aload_n hx hb dX11_init_39 rfl (lv_at hl 0 rfl) ?_
  refine lv_sipush (v := 700) hx hb dX11_init_40 (by decide) ?_
  refine g_newi (R := rmL 1 13 128123) (cells := 4) (slots := 2116) (n := 700) hx hb hts hK hI 700 (by decide) rfl (by decide) (Nat.le_of_ble_eq_true rfl) (Nat.le_of_ble_eq_true rfl) m_ac_int dX11_init_43 (fun q5 H1 hq hI => ?_)
  refine W.eq (g2 := F0 mI 45 ls [.ref q5, .ref mo]) rfl ?_
  refine g_putF (index := 22) (ci := 9) hx hb hts inlX11 tyX11 tyX11_ok nmX11 hown hK hI (gu_o hq hC.1) rfl 5 (by decide) m_fl_X11_22 (fun _ h9 => h9) rfl hnm rfl rfl rfl (Nat.le_of_ble_eq_true rfl) dX11_init_45 (fun H1 L1 hI => ?_)
  have hC := gCon.add (N := 700) (k := 5) (fs' := [.ref q0, .int 0, .ref q2, .ref q3, .ref q4, .ref q5, .null, .null, .null, .null, .null, .null, .null, .null, .int 0]) hC hq rfl
  obtain ⟨G1, eG⟩ : ∃ z, z = gu (gu G1 q5 (.inl (E.2.1, 700, .inl (fun _ => 0)))) mo (.inr (9, [.ref q0, .int 0, .ref q2, .ref q3, .ref q4, .ref q5, .null, .null, .null, .null, .null, .null, .null, .null, .int 0])) := ⟨_, rfl⟩
  replace hI : gI E.1 b0 G sP.heap G1 H1 L1 := by rw [eG]; exact hI
  rw [← eG] at hC
  clear eG hq
  refine W.eq (g2 := F0 mI 48 ls []) rfl ?_
  refine lv_aload_n hx hb dX11_init_48 rfl (lv_at hl 0 rfl) ?_
  refine lv_sipush (v := 21000) hx hb dX11_init_49 (by decide) ?_
  refine g_newi (R := rmL 1 13 128123) (cells := 5) (slots := 2816) (n := 21000) hx hb hts hK hI 21000 (by decide) rfl (by decide) (Nat.le_of_ble_eq_true rfl) (Nat.le_of_ble_eq_true rfl) m_ac_int dX11_init_52 (fun q6 H1 hq hI => ?_)
  refine W.eq (g2 := F0 mI 54 ls [.ref q6, .ref mo]) rfl ?_
  refine g_putF (index := 25) (ci := 9) hx hb hts inlX11 tyX11 tyX11_ok nmX11 hown hK hI (gu_o hq hC.1) rfl 6 (by decide) m_fl_X11_25 (fun _ h9 => h9) rfl hnm rfl rfl rfl (Nat.le_of_ble_eq_true rfl) dX11_init_54 (fun H1 L1 hI => ?_)
  have hC := gCon.add (N := 21000) (k := 6) (fs' := [.ref q0, .int 0, .ref q2, .ref q3, .ref q4, .ref q5, .ref q6, .null, .null, .null, .null, .null, .null, .null, .int 0]) hC hq rfl
  obtain ⟨G1, eG⟩ : ∃ z, z = gu (gu G1 q6 (.inl (E.2.1, 21000, .inl (fun _ => 0)))) mo (.inr (9, [.ref q0, .int 0, .ref q2, .ref q3, .ref q4, .ref q5, .ref q6, .null, .null, .null, .null, .null, .null, .null, .int 0])) := ⟨_, rfl⟩
  replace hI : gI E.1 b0 G sP.heap G1 H1 L1 := by rw [eG]; exact hI
  rw [← eG] at hC
  clear eG hq
  refine W.eq (g2 := F0 mI 57 ls []) rfl ?_
  refine lv_aload_n hx hb dX11_init_57 rfl (lv_at hl 0 rfl) ?_
  refine lv_sipush (v := 700) hx hb dX11_init_58 (by decide) ?_
  refine g_newi (R := rmL 1 13 128123) (cells := 6) (slots := 23816) (n := 700) hx hb hts hK hI 700 (by decide) rfl (by decide) (Nat.le_of_ble_eq_true rfl) (Nat.le_of_ble_eq_true rfl) m_ac_int dX11_init_61 (fun q7 H1 hq hI => ?_)
  refine W.eq (g2 := F0 mI 63 ls [.ref q7, .ref mo]) rfl ?_
  refine g_putF (index := 28) (ci := 9) hx hb hts inlX11 tyX11 tyX11_ok nmX11 hown hK hI (gu_o hq hC.1) rfl 7 (by decide) m_fl_X11_28 (fun _ h9 => h9) rfl hnm rfl rfl rfl (Nat.le_of_ble_eq_true rfl) dX11_init_63 (fun H1 L1 hI => ?_)
  have hC := gCon.add (N := 700) (k := 7) (fs' := [.ref q0, .int 0, .ref q2, .ref q3, .ref q4, .ref q5, .ref q6, .ref q7, .null, .null, .null, .null, .null, .null, .int 0]) hC hq rfl
  obtain ⟨G1, eG⟩ : ∃ z, z = gu (gu G1 q7 (.inl (E.2.1, 700, .inl (fun _ => 0)))) mo (.inr (9, [.ref q0, .int 0, .ref q2, .ref q3, .ref q4, .ref q5, .ref q6, .ref q7, .null, .null, .null, .null, .null, .null, .int 0])) := ⟨_, rfl⟩
  replace hI : gI E.1 b0 G sP.heap G1 H1 L1 := by rw [eG]; exact hI
  rw [← eG] at hC
  clear eG hq
  refine W.eq (g2 := F0 mI 66 ls []) rfl ?_
  refine lv_aload_n hx hb dX11_init_66 rfl (lv_at hl 0 rfl) ?_
  refine lv_sipush (v := 700) hx hb dX11_init_67 (by decide) ?_
  refine g_newi (R := rmL 1 13 128123) (cells := 7) (slots := 24516) (n := 700) hx hb hts hK hI 700 (by decide) rfl (by decide) (Nat.le_of_ble_eq_true rfl) (Nat.le_of_ble_eq_true rfl) m_ac_int dX11_init_70 (fun q8 H1 hq hI => ?_)
  refine W.eq (g2 := F0 mI 72 ls [.ref q8, .ref mo]) rfl ?_
  refine g_putF (index := 31) (ci := 9) hx hb hts inlX11 tyX11 tyX11_ok nmX11 hown hK hI (gu_o hq hC.1) rfl 8 (by decide) m_fl_X11_31 (fun _ h9 => h9) rfl hnm rfl rfl rfl (Nat.le_of_ble_eq_true rfl) dX11_init_72 (fun H1 L1 hI => ?_)
  have hC := gCon.add (N := 700) (k := 8) (fs' := [.ref q0, .int 0, .ref q2, .ref q3, .ref q4, .ref q5, .ref q6, .ref q7, .ref q8, .null, .null, .null, .null, .null, .int 0]) hC hq rfl
  obtain ⟨G1, eG⟩ : ∃ z, z = gu (gu G1 q8 (.inl (E.2.1, 700, .inl (fun _ => 0)))) mo (.inr (9, [.ref q0, .int 0, .ref q2, .ref q3, .ref q4, .ref q5, .ref q6, .ref q7, .ref q8, .null, .null, .null, .null, .null, .int 0])) := ⟨_, rfl⟩
  replace hI : gI E.1 b0 G sP.heap G1 H1 L1 := by rw [eG]; exact hI
  rw [← eG] at hC
  clear eG hq
  refine W.eq (g2 := F0 mI 75 ls []) rfl ?_
  refine lv_aload_n hx hb dX11_init_75 rfl (lv_at hl 0 rfl) ?_
  refine lv_ldc hx hb hown (hts _ m_ki_X11_34) dX11_init_76 ?_
  refine g_newi (R := rmL 1 13 128123) (cells := 8) (slots := 25216) (n := 100800) hx hb hts hK hI 100800 (by decide) rfl (by decide) (Nat.le_of_ble_eq_true rfl) (Nat.le_of_ble_eq_true rfl) m_ac_int dX11_init_78 (fun q9 H1 hq hI => ?_)
  refine W.eq (g2 := F0 mI 80 ls [.ref q9, .ref mo]) rfl ?_
  refine g_putF (index := 35) (ci := 9) hx hb hts inlX11 tyX11 tyX11_ok nmX11 hown hK hI (gu_o hq hC.1) rfl 9 (by decide) m_fl_X11_35 (fun _ h9 => h9) rfl hnm rfl rfl rfl (Nat.le_of_ble_eq_true rfl) dX11_init_80 (fun H1 L1 hI => ?_)
  have hC := gCon.add (N := 100800) (k := 9) (fs' := [.ref q0, .int 0, .ref q2, .ref q3, .ref q4, .ref q5, .ref q6, .ref q7, .ref q8, .ref q9, .null, .null, .null, .null, .int 0]) hC hq rfl
  obtain ⟨G1, eG⟩ : ∃ z, z = gu (gu G1 q9 (.inl (E.2.1, 100800, .inl (fun _ => 0)))) mo (.inr (9, [.ref q0, .int 0, .ref q2, .ref q3, .ref q4, .ref q5, .ref q6, .ref q7, .ref q8, .ref q9, .null, .null, .null, .null, .int 0])) := ⟨_, rfl⟩
  replace hI : gI E.1 b0 G sP.heap G1 H1 L1 := by rw [eG]; exact hI
  rw [← eG] at hC
  clear eG hq
  refine W.eq (g2 := F0 mI 83 ls []) rfl ?_
  refine lv_aload_n hx hb dX11_init_83 rfl (lv_at hl 0 rfl) ?_
  refine lv_sipush (v := 700) hx hb dX11_init_84 (by decide) ?_
  refine g_newi (R := rmL 1 13 128123) (cells := 9) (slots := 126016) (n := 700) hx hb hts hK hI 700 (by decide) rfl (by decide) (Nat.le_of_ble_eq_true rfl) (Nat.le_of_ble_eq_true rfl) m_ac_int dX11_init_87 (fun q10 H1 hq hI => ?_)
  refine W.eq (g2 := F0 mI 89 ls [.ref q10, .ref mo]) rfl ?_
  refine g_putF (index := 38) (ci := 9) hx hb hts inlX11 tyX11 tyX11_ok nmX11 hown hK hI (gu_o hq hC.1) rfl 10 (by decide) m_fl_X11_38 (fun _ h9 => h9) rfl hnm rfl rfl rfl (Nat.le_of_ble_eq_true rfl) dX11_init_89 (fun H1 L1 hI => ?_)
  have hC := gCon.add (N := 700) (k := 10) (fs' := [.ref q0, .int 0, .ref q2, .ref q3, .ref q4, .ref q5, .ref q6, .ref q7, .ref q8, .ref q9, .ref q10, .null, .null, .null, .int 0]) hC hq rfl
  obtain ⟨G1, eG⟩ : ∃ z, z = gu (gu G1 q10 (.inl (E.2.1, 700, .inl (fun _ => 0)))) mo (.inr (9, [.ref q0, .int 0, .ref q2, .ref q3, .ref q4, .ref q5, .ref q6, .ref q7, .ref q8, .ref q9, .ref q10, .null, .null, .null, .int 0])) := ⟨_, rfl⟩
  replace hI : gI E.1 b0 G sP.heap G1 H1 L1 := by rw [eG]; exact hI
  rw [← eG] at hC
  clear eG hq
  refine W.eq (g2 := F0 mI 92 ls []) rfl ?_
  refine lv_aload_n hx hb dX11_init_92 rfl (lv_at hl 0 rfl) ?_
  refine lv_sipush (v := 700) hx hb dX11_init_93 (by decide) ?_
  refine g_newi (R := rmL 1 13 128123) (cells := 10) (slots := 126716) (n := 700) hx hb hts hK hI 700 (by decide) rfl (by decide) (Nat.le_of_ble_eq_true rfl) (Nat.le_of_ble_eq_true rfl) m_ac_int dX11_init_96 (fun q11 H1 hq hI => ?_)
  refine W.eq (g2 := F0 mI 98 ls [.ref q11, .ref mo]) rfl ?_
  refine g_putF (index := 41) (ci := 9) hx hb hts inlX11 tyX11 tyX11_ok nmX11 hown hK hI (gu_o hq hC.1) rfl 11 (by decide) m_fl_X11_41 (fun _ h9 => h9) rfl hnm rfl rfl rfl (Nat.le_of_ble_eq_true rfl) dX11_init_98 (fun H1 L1 hI => ?_)
  have hC := gCon.add (N := 700) (k := 11) (fs' := [.ref q0, .int 0, .ref q2, .ref q3, .ref q4, .ref q5, .ref q6, .ref q7, .ref q8, .ref q9, .ref q10, .ref q11, .null, .null, .int 0]) hC hq rfl
  obtain ⟨G1, eG⟩ : ∃ z, z = gu (gu G1 q11 (.inl (E.2.1, 700, .inl (fun _ => 0)))) mo (.inr (9, [.ref q0, .int 0, .ref q2, .ref q3, .ref q4, .ref q5, .ref q6, .ref q7, .ref q8, .ref q9, .ref q10, .ref q11, .null, .null, .int 0])) := ⟨_, rfl⟩
  replace hI : gI E.1 b0 G sP.heap G1 H1 L1 := by rw [eG]; exact hI
  rw [← eG] at hC
  clear eG hq
  refine W.eq (g2 := F0 mI 101 ls []) rfl ?_
  refine lv_aload_n hx hb dX11_init_101 rfl (lv_at hl 0 rfl) ?_
  refine lv_sipush (v := 700) hx hb dX11_init_102 (by decide) ?_
  refine g_newi (R := rmL 1 13 128123) (cells := 11) (slots := 127416) (n := 700) hx hb hts hK hI 700 (by decide) rfl (by decide) (Nat.le_of_ble_eq_true rfl) (Nat.le_of_ble_eq_true rfl) m_ac_int dX11_init_105 (fun q12 H1 hq hI => ?_)
  refine W.eq (g2 := F0 mI 107 ls [.ref q12, .ref mo]) rfl ?_
  refine g_putF (index := 44) (ci := 9) hx hb hts inlX11 tyX11 tyX11_ok nmX11 hown hK hI (gu_o hq hC.1) rfl 12 (by decide) m_fl_X11_44 (fun _ h9 => h9) rfl hnm rfl rfl rfl (Nat.le_of_ble_eq_true rfl) dX11_init_107 (fun H1 L1 hI => ?_)
  have hC := gCon.add (N := 700) (k := 12) (fs' := [.ref q0, .int 0, .ref q2, .ref q3, .ref q4, .ref q5, .ref q6, .ref q7, .ref q8, .ref q9, .ref q10, .ref q11, .ref q12, .null, .int 0]) hC hq rfl
  obtain ⟨G1, eG⟩ : ∃ z, z = gu (gu G1 q12 (.inl (E.2.1, 700, .inl (fun _ => 0)))) mo (.inr (9, [.ref q0, .int 0, .ref q2, .ref q3, .ref q4, .ref q5, .ref q6, .ref q7, .ref q8, .ref q9, .ref q10, .ref q11, .ref q12, .null, .int 0])) := ⟨_, rfl⟩
  replace hI : gI E.1 b0 G sP.heap G1 H1 L1 := by rw [eG]; exact hI
  rw [← eG] at hC
  clear eG hq
  refine W.eq (g2 := F0 mI 110 ls []) rfl ?_
  refine lv_aload_n hx hb dX11_init_110 rfl (lv_at hl 0 rfl) ?_
  refine lv_bipush (v := 7) hx hb dX11_init_111 (by decide) ?_
  refine g_newi (R := rmL 1 13 128123) (cells := 12) (slots := 128116) (n := 7) hx hb hts hK hI 7 (by decide) rfl (by decide) (Nat.le_of_ble_eq_true rfl) (Nat.le_of_ble_eq_true rfl) m_ac_int dX11_init_113 (fun q13 H1 hq hI => ?_)
  refine W.eq (g2 := F0 mI 115 ls [.ref q13, .ref mo]) rfl ?_
  refine g_putF (index := 47) (ci := 9) hx hb hts inlX11 tyX11 tyX11_ok nmX11 hown hK hI (gu_o hq hC.1) rfl 13 (by decide) m_fl_X11_47 (fun _ h9 => h9) rfl hnm rfl rfl rfl (Nat.le_of_ble_eq_true rfl) dX11_init_115 (fun H1 L1 hI => ?_)
  have hC := gCon.add (N := 7) (k := 13) (fs' := [.ref q0, .int 0, .ref q2, .ref q3, .ref q4, .ref q5, .ref q6, .ref q7, .ref q8, .ref q9, .ref q10, .ref q11, .ref q12, .ref q13, .int 0]) hC hq rfl
  obtain ⟨G1, eG⟩ : ∃ z, z = gu (gu G1 q13 (.inl (E.2.1, 7, .inl (fun _ => 0)))) mo (.inr (9, [.ref q0, .int 0, .ref q2, .ref q3, .ref q4, .ref q5, .ref q6, .ref q7, .ref q8, .ref q9, .ref q10, .ref q11, .ref q12, .ref q13, .int 0])) := ⟨_, rfl⟩
  replace hI : gI E.1 b0 G sP.heap G1 H1 L1 := by rw [eG]; exact hI
  rw [← eG] at hC
  clear eG hq
  refine W.eq (g2 := F0 mI 118 ls []) rfl ?_
  exact g_vret hx hb hr hlocks hI ⟨rfl, hC.done⟩ dX11_init_118 (by omega) (by omega)
