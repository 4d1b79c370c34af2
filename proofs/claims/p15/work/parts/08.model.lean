set_option maxHeartbeats 4000000 in
set_option maxRecDepth 100000 in
theorem c_X11_in (l : Launch) (E : gE) (b0 : Nat) (G : gG) (v lo hi : Int32) : gM l yX11_in cX11_in 3 (some .boolean) 0 0 0 E b0 G [.int v, .int lo, .int hi] (pI (fun v9 G1 => G1 = G ∧ (inb v lo hi = true ∧ v9 = 1 ∨ inb v lo hi = false ∧ v9 = 0))) := by
  refine gM.of (by decide +kernel) (Nat.le_of_ble_eq_true rfl) ?_
  intro pP eP sP mI bP meth cP ls hx hb hr hml hown hlocks hnm hts hK hI hl
  have hl : lv_has ls 3 [(0, .int v), (1, .int lo), (2, .int hi)] := hl
  have hown : sP.vm.findClass RX11 = some mI.cls := hown
  refine lv_iload_n hx hb dX11_in_0 rfl (lv_at hl 0 rfl) ?_
  refine lv_iload_n hx hb dX11_in_1 rfl (lv_at hl 1 rfl) ?_
  refine lv_icmp_lt (tgt := 14) hx hb dX11_in_2 (by decide) (fun c_1 => ?_) (fun c_1 => ?_)
  · refine lv_iconst (v := 0) hx hb dX11_in_14 (by decide) ?_
    exact g_zret hx hb hr hlocks hI rfl ⟨_, rfl, rfl, Or.inr ⟨by simp [inb, c_1], rfl⟩⟩ dX11_in_15 (Nat.le_of_ble_eq_true rfl) (Nat.le_of_ble_eq_true rfl)
  · refine lv_iload_n hx hb dX11_in_5 rfl (lv_at hl 0 rfl) ?_
    refine lv_iload_n hx hb dX11_in_6 rfl (lv_at hl 2 rfl) ?_
    refine lv_icmp_gt (tgt := 14) hx hb dX11_in_7 (by decide) (fun c_2 => ?_) (fun c_2 => ?_)
    · refine lv_iconst (v := 0) hx hb dX11_in_14 (by decide) ?_
      exact g_zret hx hb hr hlocks hI rfl ⟨_, rfl, rfl, Or.inr ⟨by simp [inb, c_1, c_2], rfl⟩⟩ dX11_in_15 (Nat.le_of_ble_eq_true rfl) (Nat.le_of_ble_eq_true rfl)
    · refine lv_iconst (v := 1) hx hb dX11_in_10 (by decide) ?_
      refine lv_goto (tgt := 15) hx hb dX11_in_11 (by decide) ?_
      exact g_zret hx hb hr hlocks hI rfl ⟨_, rfl, rfl, Or.inl ⟨by simp [inb, c_1, c_2], rfl⟩⟩ dX11_in_15 (Nat.le_of_ble_eq_true rfl) (Nat.le_of_ble_eq_true rfl)
set_option maxHeartbeats 4000000 in
set_option maxRecDepth 100000 in
theorem c_X11_isShelf (l : Launch) (E : gE) (b0 : Nat) (G : gG) (s0 : Int32) : gM l yX11_isShelf cX11_isShelf 1 (some .boolean) 1 0 0 E b0 G [.int s0] (pI (fun v9 G1 => G1 = G ∧ (isSh s0 = true ∧ v9 = 1 ∨ isSh s0 = false ∧ v9 = 0))) := by
  refine gM.of (by decide +kernel) (Nat.le_of_ble_eq_true rfl) ?_
  intro pP eP sP mI bP meth cP ls hx hb hr hml hown hlocks hnm hts hK hI hl
  have hl : lv_has ls 1 [(0, .int s0)] := hl
  have hown : sP.vm.findClass RX11 = some mI.cls := hown
  refine lv_iload_n hx hb dX11_isShelf_0 rfl (lv_at hl 0 rfl) ?_
  refine lv_iconst (v := 0) hx hb dX11_isShelf_1 (by decide) ?_
  refine lv_bipush (v := 15) hx hb dX11_isShelf_2 (by decide) ?_
  refine g_callS (own := RX11) (index := 50) (n := 3) hx hb hml hown hts (c_X11_in l E b0 _ s0 0 15) m_ml_X11_50 m_st_X11_in m_in_X11 m_co_X11_in (by decide +kernel) ⟨Nat.le_of_ble_eq_true rfl, Nat.le_of_ble_eq_true rfl⟩ ⟨Nat.le_of_ble_eq_true rfl, Nat.le_of_ble_eq_true rfl⟩ rfl hl.1 rfl (Nat.le_of_ble_eq_true rfl) dX11_isShelf_4 hK hI (fun r G1 H1 L1 hp hI => ?_)
  obtain ⟨v, rfl, hG, ⟨h_1, rfl⟩ | ⟨h_1, rfl⟩⟩ := hp
  · rw [hG] at hI
    refine W.eq (g2 := F0 mI 7 ls [.int 1]) rfl ?_
    exact g_zret hx hb hr hlocks hI rfl ⟨_, rfl, rfl, Or.inl ⟨h_1, rfl⟩⟩ dX11_isShelf_7 (Nat.le_of_ble_eq_true rfl) (Nat.le_of_ble_eq_true rfl)
  · rw [hG] at hI
    refine W.eq (g2 := F0 mI 7 ls [.int 0]) rfl ?_
    exact g_zret hx hb hr hlocks hI rfl ⟨_, rfl, rfl, Or.inr ⟨h_1, rfl⟩⟩ dX11_isShelf_7 (Nat.le_of_ble_eq_true rfl) (Nat.le_of_ble_eq_true rfl)
set_option maxHeartbeats 4000000 in
set_option maxRecDepth 100000 in
theorem c_X11_refuse (l : Launch) (E : gE) (b0 : Nat) (G : gG) (mo : Nat) (ma : Nat → Nat) (A : gA) (hM : gMod E mo ma A G) (k : Int32) (hk : vp_in k 7) : gM l yX11_refuse cX11_refuse 2 (some .int) 0 0 0 E b0 G [.ref mo, .int k] (pI (fun v9 G1 => v9 = -10 - k ∧ gMod E mo ma (rfs A k) G1)) := by
  refine gM.of (by decide +kernel) (Nat.le_of_ble_eq_true rfl) ?_
  intro pP eP sP mI bP meth cP ls hx hb hr hml hown hlocks hnm hts hK hI hl
  have hl : lv_has ls 2 [(0, .ref mo), (1, .int k)] := hl
  have hown : sP.vm.findClass RX11 = some mI.cls := hown
  refine lv_aload_n hx hb dX11_refuse_0 rfl (lv_at hl 0 rfl) ?_
  refine x_get (index := 47) hx hb hts hown hK hI hM 13 (by decide) m_fl_X11_47 rfl dX11_refuse_1 rfl ?_
  refine lv_iconst (v := 0) hx hb dX11_refuse_4 (by decide) ?_
  refine lv_dup2_11 hx hb dX11_refuse_5 rfl rfl ?_
  refine x_ld hx hb hK hI hM 13 (by decide) (vp_in_iff.mpr (by decide)) dX11_refuse_6 ?_
  refine lv_iconst (v := 1) hx hb dX11_refuse_7 (by decide) ?_
  refine lv_iadd hx hb dX11_refuse_8 ?_
  refine x_st hx hb hK hI hM 13 (by decide) (vp_in_iff.mpr (by decide)) dX11_refuse_9 (fun G1 H1 L1 hM hI => ?_)
  refine lv_aload_n hx hb dX11_refuse_10 rfl (lv_at hl 0 rfl) ?_
  refine x_get (index := 47) hx hb hts hown hK hI hM 13 (by decide) m_fl_X11_47 rfl dX11_refuse_11 rfl ?_
  refine lv_iload_n hx hb dX11_refuse_14 rfl (lv_at hl 1 rfl) ?_
  refine lv_dup2_11 hx hb dX11_refuse_15 rfl rfl ?_
  refine x_ld hx hb hK hI hM 13 (by decide) hk dX11_refuse_16 ?_
  refine lv_iconst (v := 1) hx hb dX11_refuse_17 (by decide) ?_
  refine lv_iadd hx hb dX11_refuse_18 ?_
  refine x_st hx hb hK hI hM 13 (by decide) hk dX11_refuse_19 (fun G1 H1 L1 hM hI => ?_)
  refine lv_bipush (v := -10) hx hb dX11_refuse_20 (by decide) ?_
  refine lv_iload_n hx hb dX11_refuse_22 rfl (lv_at hl 1 rfl) ?_
  refine lv_isub hx hb dX11_refuse_23 ?_
  exact g_iret hx hb hr hlocks hI ⟨_, rfl, rfl, hM⟩ dX11_refuse_24 (Nat.le_of_ble_eq_true rfl) (Nat.le_of_ble_eq_true rfl)
set_option maxHeartbeats 4000000 in
set_option maxRecDepth 100000 in
theorem c_X11_refuseLong (l : Launch) (E : gE) (b0 : Nat) (G : gG) (mo : Nat) (ma : Nat → Nat) (A : gA) (hM : gMod E mo ma A G) (k : Int32) (hk : vp_in k 7) : gM l yX11_refuseLong cX11_refuseLong 2 (some .long) 1 0 0 E b0 G [.ref mo, .int k] (pL (fun v9 G1 => v9 = -9223372036854775708 + (-10 - k).toInt64 ∧ gMod E mo ma (rfs A k) G1)) := by
  refine gM.of (by decide +kernel) (Nat.le_of_ble_eq_true rfl) ?_
  intro pP eP sP mI bP meth cP ls hx hb hr hml hown hlocks hnm hts hK hI hl
  have hl : lv_has ls 2 [(0, .ref mo), (1, .int k)] := hl
  have hown : sP.vm.findClass RX11 = some mI.cls := hown
  refine lv_ldc2 hx hb hown (hts _ m_kl_X11_54) dX11_refuseLong_0 ?_
  refine lv_aload_n hx hb dX11_refuseLong_3 rfl (lv_at hl 0 rfl) ?_
  refine lv_iload_n hx hb dX11_refuseLong_4 rfl (lv_at hl 1 rfl) ?_
  refine g_callV (own := RX11) (index := 56) (n := 1) hx hb hml hown hts (c_X11_refuse l E b0 _ mo ma _ hM k hk) hM.1 rfl rfl m_ml_X11_56 m_im_X11_refuse m_se_X11_X11_refuse_X11_refuse m_in_X11 m_co_X11_refuse (by decide +kernel) ⟨Nat.le_of_ble_eq_true rfl, Nat.le_of_ble_eq_true rfl⟩ ⟨Nat.le_of_ble_eq_true rfl, Nat.le_of_ble_eq_true rfl⟩ rfl hl.1 rfl (Nat.le_of_ble_eq_true rfl) dX11_refuseLong_5 hK hI (fun r G1 H1 L1 hp hI => ?_)
  obtain ⟨v, rfl, ev, hM⟩ := hp
  subst ev
  refine W.eq (g2 := F0 mI 8 ls [.int (-10 - k), .long (-9223372036854775708)]) rfl ?_
  refine lv_i2l hx hb dX11_refuseLong_8 rfl ?_
  refine lv_ladd hx hb dX11_refuseLong_9 ?_
  exact g_lret hx hb hr hlocks hI ⟨_, rfl, rfl, hM⟩ dX11_refuseLong_10 (Nat.le_of_ble_eq_true rfl) (Nat.le_of_ble_eq_true rfl)
set_option maxHeartbeats 4000000 in
set_option maxRecDepth 100000 in
theorem c_X11_thing (l : Launch) (E : gE) (b0 : Nat) (G : gG) (mo : Nat) (ma : Nat → Nat) (A : gA) (hM : gMod E mo ma A G) (so v : Int32) (hk : vp_in (A 1 0 + 1) 700) : gM l yX11_thing cX11_thing 4 (some .int) 0 0 0 E b0 G [.ref mo, .int so, .int v] (pI (fun v9 G1 => v9 = A 1 0 + 1 ∧ gMod E mo ma (nthg A so v) G1)) := by
  refine gM.of (by decide +kernel) (Nat.le_of_ble_eq_true rfl) ?_
  intro pP eP sP mI bP meth cP ls hx hb hr hml hown hlocks hnm hts hK hI hl
  have hl : lv_has ls 4 [(0, .ref mo), (1, .int so), (2, .int v)] := hl
  have hown : sP.vm.findClass RX11 = some mI.cls := hown
  refine lv_aload_n hx hb dX11_thing_0 rfl (lv_at hl 0 rfl) ?_
  refine lv_dup hx hb dX11_thing_1 rfl ?_
  refine x_get (index := 60) hx hb hts hown hK hI hM 1 (by decide) m_fl_X11_60 rfl dX11_thing_2 rfl ?_
  refine lv_iconst (v := 1) hx hb dX11_thing_5 (by decide) ?_
  refine lv_iadd hx hb dX11_thing_6 ?_
  refine x_put (index := 60) hx hb hts hown hK hI hM 1 (by decide) m_fl_X11_60 dX11_thing_7 rfl rfl rfl (by decide) (fun G1 H1 L1 hM hI => ?_)
  refine lv_aload_n hx hb dX11_thing_10 rfl (lv_at hl 0 rfl) ?_
  refine x_get (index := 60) hx hb hts hown hK hI hM 1 (by decide) m_fl_X11_60 rfl dX11_thing_11 rfl ?_
  refine lv_istore_n (lv' := [(3, .int ((u2 A 1 0 ((A 1 0) + 1)) 1 0)), (0, .ref mo), (1, .int so), (2, .int v)]) hx hb dX11_thing_14 rfl hl (by decide) rfl (fun ls hl => ?_)
  refine lv_aload_n hx hb dX11_thing_15 rfl (lv_at hl 1 rfl) ?_
  refine x_get (index := 13) hx hb hts hown hK hI hM 2 (by decide) m_fl_X11_13 rfl dX11_thing_16 rfl ?_
  refine lv_iload_n hx hb dX11_thing_19 rfl (lv_at hl 0 rfl) ?_
  refine lv_iload_n hx hb dX11_thing_20 rfl (lv_at hl 2 rfl) ?_
  refine x_st hx hb hK hI hM 2 (by decide) hk dX11_thing_21 (fun G1 H1 L1 hM hI => ?_)
  refine lv_aload_n hx hb dX11_thing_22 rfl (lv_at hl 1 rfl) ?_
  refine x_get (index := 16) hx hb hts hown hK hI hM 3 (by decide) m_fl_X11_16 rfl dX11_thing_23 rfl ?_
  refine lv_iload_n hx hb dX11_thing_26 rfl (lv_at hl 0 rfl) ?_
  refine lv_iload_n hx hb dX11_thing_27 rfl (lv_at hl 3 rfl) ?_
  refine x_st hx hb hK hI hM 3 (by decide) hk dX11_thing_28 (fun G1 H1 L1 hM hI => ?_)
  refine lv_aload_n hx hb dX11_thing_29 rfl (lv_at hl 1 rfl) ?_
  refine x_get (index := 19) hx hb hts hown hK hI hM 4 (by decide) m_fl_X11_19 rfl dX11_thing_30 rfl ?_
  refine lv_iload_n hx hb dX11_thing_33 rfl (lv_at hl 0 rfl) ?_
  refine lv_iconst (v := 0) hx hb dX11_thing_34 (by decide) ?_
  refine x_st hx hb hK hI hM 4 (by decide) hk dX11_thing_35 (fun G1 H1 L1 hM hI => ?_)
  refine lv_aload_n hx hb dX11_thing_36 rfl (lv_at hl 1 rfl) ?_
  refine x_get (index := 22) hx hb hts hown hK hI hM 5 (by decide) m_fl_X11_22 rfl dX11_thing_37 rfl ?_
  refine lv_iload_n hx hb dX11_thing_40 rfl (lv_at hl 0 rfl) ?_
  refine lv_iconst (v := -1) hx hb dX11_thing_41 (by decide) ?_
  refine x_st hx hb hK hI hM 5 (by decide) hk dX11_thing_42 (fun G1 H1 L1 hM hI => ?_)
  refine lv_aload_n hx hb dX11_thing_43 rfl (lv_at hl 1 rfl) ?_
  refine x_get (index := 28) hx hb hts hown hK hI hM 7 (by decide) m_fl_X11_28 rfl dX11_thing_44 rfl ?_
  refine lv_iload_n hx hb dX11_thing_47 rfl (lv_at hl 0 rfl) ?_
  refine lv_iconst (v := -1) hx hb dX11_thing_48 (by decide) ?_
  refine x_st hx hb hK hI hM 7 (by decide) hk dX11_thing_49 (fun G1 H1 L1 hM hI => ?_)
  refine lv_aload_n hx hb dX11_thing_50 rfl (lv_at hl 1 rfl) ?_
  refine x_get (index := 31) hx hb hts hown hK hI hM 8 (by decide) m_fl_X11_31 rfl dX11_thing_51 rfl ?_
  refine lv_iload_n hx hb dX11_thing_54 rfl (lv_at hl 0 rfl) ?_
  refine lv_iconst (v := 0) hx hb dX11_thing_55 (by decide) ?_
  refine x_st hx hb hK hI hM 8 (by decide) hk dX11_thing_56 (fun G1 H1 L1 hM hI => ?_)
  refine lv_aload_n hx hb dX11_thing_57 rfl (lv_at hl 1 rfl) ?_
  refine x_get (index := 38) hx hb hts hown hK hI hM 10 (by decide) m_fl_X11_38 rfl dX11_thing_58 rfl ?_
  refine lv_iload_n hx hb dX11_thing_61 rfl (lv_at hl 0 rfl) ?_
  refine lv_iconst (v := 0) hx hb dX11_thing_62 (by decide) ?_
  refine x_st hx hb hK hI hM 10 (by decide) hk dX11_thing_63 (fun G1 H1 L1 hM hI => ?_)
  refine lv_aload_n hx hb dX11_thing_64 rfl (lv_at hl 1 rfl) ?_
  refine x_get (index := 41) hx hb hts hown hK hI hM 11 (by decide) m_fl_X11_41 rfl dX11_thing_65 rfl ?_
  refine lv_iload_n hx hb dX11_thing_68 rfl (lv_at hl 0 rfl) ?_
  refine lv_iconst (v := 0) hx hb dX11_thing_69 (by decide) ?_
  refine x_st hx hb hK hI hM 11 (by decide) hk dX11_thing_70 (fun G1 H1 L1 hM hI => ?_)
  refine lv_aload_n hx hb dX11_thing_71 rfl (lv_at hl 1 rfl) ?_
  refine x_get (index := 44) hx hb hts hown hK hI hM 12 (by decide) m_fl_X11_44 rfl dX11_thing_72 rfl ?_
  refine lv_iload_n hx hb dX11_thing_75 rfl (lv_at hl 0 rfl) ?_
  refine lv_iconst (v := 0) hx hb dX11_thing_76 (by decide) ?_
  refine x_st hx hb hK hI hM 12 (by decide) hk dX11_thing_77 (fun G1 H1 L1 hM hI => ?_)
  refine lv_iload_n hx hb dX11_thing_78 rfl (lv_at hl 0 rfl) ?_
  exact g_iret hx hb hr hlocks hI ⟨_, rfl, rfl, hM⟩ dX11_thing_79 (Nat.le_of_ble_eq_true rfl) (Nat.le_of_ble_eq_true rfl)
set_option maxHeartbeats 4000000 in
set_option maxRecDepth 100000 in
theorem c_X11_fits (l : Launch) (E : gE) (b0 : Nat) (G : gG) (mo : Nat) (ma : Nat → Nat) (A : gA) (hM : gMod E mo ma A G) (t lo hi : Int32) (ht : vp_in t 700) : gM l yX11_fits cX11_fits 4 (some .boolean) 1 0 0 E b0 G [.ref mo, .int t, .int lo, .int hi] (pI (fun v9 G1 => G1 = G ∧ (fit A t lo hi = true ∧ v9 = 1 ∨ fit A t lo hi = false ∧ v9 = 0))) := by
  refine gM.of (by decide +kernel) (Nat.le_of_ble_eq_true rfl) ?_
  intro pP eP sP mI bP meth cP ls hx hb hr hml hown hlocks hnm hts hK hI hl
  have hl : lv_has ls 4 [(0, .ref mo), (1, .int t), (2, .int lo), (3, .int hi)] := hl
  have hown : sP.vm.findClass RX11 = some mI.cls := hown
  refine lv_iload_n hx hb dX11_fits_0 rfl (lv_at hl 1 rfl) ?_
  refine lv_if_eq (tgt := 18) hx hb dX11_fits_1 (by decide) (fun c_1 => ?_) (fun c_1 => ?_)
  · have q_2 := eqb_t c_1
    refine lv_iconst (v := 1) hx hb dX11_fits_18 (by decide) ?_
    refine lv_goto (tgt := 23) hx hb dX11_fits_19 (by decide) ?_
    exact g_zret hx hb hr hlocks hI rfl ⟨_, rfl, rfl, Or.inl ⟨by simp_all [fit, eqb], rfl⟩⟩ dX11_fits_23 (Nat.le_of_ble_eq_true rfl) (Nat.le_of_ble_eq_true rfl)
  · have q_3 := eqb_f c_1
    refine lv_aload_n hx hb dX11_fits_4 rfl (lv_at hl 0 rfl) ?_
    refine x_get (index := 13) hx hb hts hown hK hI hM 2 (by decide) m_fl_X11_13 rfl dX11_fits_5 rfl ?_
    refine lv_iload_n hx hb dX11_fits_8 rfl (lv_at hl 1 rfl) ?_
    refine x_ld hx hb hK hI hM 2 (by decide) ht dX11_fits_9 ?_
    refine lv_iload_n hx hb dX11_fits_10 rfl (lv_at hl 2 rfl) ?_
    refine lv_iload_n hx hb dX11_fits_11 rfl (lv_at hl 3 rfl) ?_
    refine g_callS (own := RX11) (index := 50) (n := 3) hx hb hml hown hts (c_X11_in l E b0 _ (A 2 (ix t)) lo hi) m_ml_X11_50 m_st_X11_in m_in_X11 m_co_X11_in (by decide +kernel) ⟨Nat.le_of_ble_eq_true rfl, Nat.le_of_ble_eq_true rfl⟩ ⟨Nat.le_of_ble_eq_true rfl, Nat.le_of_ble_eq_true rfl⟩ rfl hl.1 rfl (Nat.le_of_ble_eq_true rfl) dX11_fits_12 hK hI (fun r G1 H1 L1 hp hI => ?_)
    obtain ⟨v, rfl, hG, ⟨h_4, rfl⟩ | ⟨h_4, rfl⟩⟩ := hp
    · rw [hG] at hI
      refine W.eq (g2 := F0 mI 15 ls [.int 1]) rfl ?_
      refine lv_if_eq (tgt := 22) hx hb dX11_fits_15 (by decide) (fun c_5 => absurd c_5 (by decide)) (fun _ => ?_)
      refine lv_iconst (v := 1) hx hb dX11_fits_18 (by decide) ?_
      refine lv_goto (tgt := 23) hx hb dX11_fits_19 (by decide) ?_
      exact g_zret hx hb hr hlocks hI rfl ⟨_, rfl, rfl, Or.inl ⟨by simp_all [fit, eqb], rfl⟩⟩ dX11_fits_23 (Nat.le_of_ble_eq_true rfl) (Nat.le_of_ble_eq_true rfl)
    · rw [hG] at hI
      refine W.eq (g2 := F0 mI 15 ls [.int 0]) rfl ?_
      refine lv_if_eq (tgt := 22) hx hb dX11_fits_15 (by decide) (fun _ => ?_) (fun c_6 => absurd c_6 (by decide))
      refine lv_iconst (v := 0) hx hb dX11_fits_22 (by decide) ?_
      exact g_zret hx hb hr hlocks hI rfl ⟨_, rfl, rfl, Or.inr ⟨by simp_all [fit, eqb], rfl⟩⟩ dX11_fits_23 (Nat.le_of_ble_eq_true rfl) (Nat.le_of_ble_eq_true rfl)
