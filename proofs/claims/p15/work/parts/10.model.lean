set_option maxHeartbeats 4000000 in
set_option maxRecDepth 100000 in
theorem c_X11_wrongHive (l : Launch) (E : gE) (b0 : Nat) (G : gG) (mo : Nat) (ma : Nat → Nat) (A : gA) (hM : gMod E mo ma A G) (nn : Nat) (hw : wfb A nn) (s : Int32) (hs : isSh s = true) : gM l yX11_wrongHive cX11_wrongHive 2 (some .int) 2 0 0 E b0 G [.ref mo, .int s] (pI (fun v9 G1 => v9 = wHv A s ∧ G1 = G)) := by
  refine gM.of (by decide +kernel) (Nat.le_of_ble_eq_true rfl) ?_
  intro pP eP sP mI bP meth cP ls hx hb hr hml hown hlocks hnm hts hK hI hl
  have hl : lv_has ls 2 [(0, .ref mo), (1, .int s)] := hl
  have hown : sP.vm.findClass RX11 = some mI.cls := hown
  refine lv_aload_n hx hb dX11_wrongHive_0 rfl (lv_at hl 0 rfl) ?_
  refine lv_aload_n hx hb dX11_wrongHive_1 rfl (lv_at hl 0 rfl) ?_
  refine x_get (index := 7) hx hb hts hown hK hI hM 0 (by decide) m_fl_X11_7 rfl dX11_wrongHive_2 rfl ?_
  refine lv_iload_n hx hb dX11_wrongHive_5 rfl (lv_at hl 1 rfl) ?_
  refine x_ld hx hb hK hI hM 0 (by decide) (sh_in hs) dX11_wrongHive_6 ?_
  refine lv_bipush (v := 6) hx hb dX11_wrongHive_7 (by decide) ?_
  refine lv_bipush (v := 7) hx hb dX11_wrongHive_9 (by decide) ?_
  refine g_callV (own := RX11) (index := 76) (n := 3) hx hb hml hown hts (c_X11_fits l E b0 _ mo ma _ hM (A 0 (ix s)) 6 7 (hw.sh (sh_in hs))) hM.1 rfl rfl m_ml_X11_76 m_im_X11_fits m_se_X11_X11_fits_X11_fits m_in_X11 m_co_X11_fits (by decide +kernel) ⟨Nat.le_of_ble_eq_true rfl, Nat.le_of_ble_eq_true rfl⟩ ⟨Nat.le_of_ble_eq_true rfl, Nat.le_of_ble_eq_true rfl⟩ rfl hl.1 rfl (Nat.le_of_ble_eq_true rfl) dX11_wrongHive_11 hK hI (fun r G1 H1 L1 hp hI => ?_)
  obtain ⟨v, rfl, hG, ⟨h_1, rfl⟩ | ⟨h_1, rfl⟩⟩ := hp
  · rw [hG] at hI
    refine W.eq (g2 := F0 mI 14 ls [.int 1]) rfl ?_
    refine lv_if_ne (tgt := 21) hx hb dX11_wrongHive_14 (by decide) (fun _ => ?_) (fun c_2 => absurd c_2 (by decide))
    refine lv_aload_n hx hb dX11_wrongHive_21 rfl (lv_at hl 0 rfl) ?_
    refine x_get (index := 7) hx hb hts hown hK hI hM 0 (by decide) m_fl_X11_7 rfl dX11_wrongHive_22 rfl ?_
    refine lv_iload_n hx hb dX11_wrongHive_25 rfl (lv_at hl 1 rfl) ?_
    refine x_ld hx hb hK hI hM 0 (by decide) (sh_in hs) dX11_wrongHive_26 ?_
    refine lv_if_ne (tgt := 34) hx hb dX11_wrongHive_27 (by decide) (fun c_3 => ?_) (fun c_3 => ?_)
    · have q_4 := eqb_f c_3
      refine lv_iconst (v := 0) hx hb dX11_wrongHive_34 (by decide) ?_
      exact g_iret hx hb hr hlocks hI ⟨_, rfl, by simp only [wHv, h_1, q_4, reduceIte, Bool.false_eq_true, not_true_eq_false, not_false_eq_true], rfl⟩ dX11_wrongHive_35 (Nat.le_of_ble_eq_true rfl) (Nat.le_of_ble_eq_true rfl)
    · have q_5 := eqb_t c_3
      refine lv_iconst (v := 1) hx hb dX11_wrongHive_30 (by decide) ?_
      refine lv_goto (tgt := 35) hx hb dX11_wrongHive_31 (by decide) ?_
      exact g_iret hx hb hr hlocks hI ⟨_, rfl, by simp only [wHv, h_1, q_5, reduceIte, Bool.false_eq_true, not_true_eq_false, not_false_eq_true], rfl⟩ dX11_wrongHive_35 (Nat.le_of_ble_eq_true rfl) (Nat.le_of_ble_eq_true rfl)
  · rw [hG] at hI
    refine W.eq (g2 := F0 mI 14 ls [.int 0]) rfl ?_
    refine lv_if_ne (tgt := 21) hx hb dX11_wrongHive_14 (by decide) (fun c_6 => absurd c_6 (by decide)) (fun _ => ?_)
    refine lv_iconst (v := 5) hx hb dX11_wrongHive_17 (by decide) ?_
    refine lv_goto (tgt := 35) hx hb dX11_wrongHive_18 (by decide) ?_
    exact g_iret hx hb hr hlocks hI ⟨_, rfl, by simp only [wHv, h_1, reduceIte, Bool.false_eq_true, not_true_eq_false, not_false_eq_true], rfl⟩ dX11_wrongHive_35 (Nat.le_of_ble_eq_true rfl) (Nat.le_of_ble_eq_true rfl)
set_option maxHeartbeats 4000000 in
set_option maxRecDepth 100000 in
theorem c_X11_wrongRow (l : Launch) (E : gE) (b0 : Nat) (G : gG) (mo : Nat) (ma : Nat → Nat) (A : gA) (hM : gMod E mo ma A G) (nn : Nat) (hw : wfb A nn) (s : Int32) (hs : isSh s = true) : gM l yX11_wrongRow cX11_wrongRow 3 (some .int) 3 0 0 E b0 G [.ref mo, .int s] (pI (fun v9 G1 => v9 = wRw A s ∧ G1 = G)) := by
  refine gM.of (by decide +kernel) (Nat.le_of_ble_eq_true rfl) ?_
  intro pP eP sP mI bP meth cP ls hx hb hr hml hown hlocks hnm hts hK hI hl
  have hl : lv_has ls 3 [(0, .ref mo), (1, .int s)] := hl
  have hown : sP.vm.findClass RX11 = some mI.cls := hown
  refine lv_aload_n hx hb dX11_wrongRow_0 rfl (lv_at hl 0 rfl) ?_
  refine lv_iload_n hx hb dX11_wrongRow_1 rfl (lv_at hl 1 rfl) ?_
  refine g_callV (own := RX11) (index := 79) (n := 1) hx hb hml hown hts (c_X11_wrongHive l E b0 _ mo ma _ hM nn hw s hs) hM.1 rfl rfl m_ml_X11_79 m_im_X11_wrongHive m_se_X11_X11_wrongHive_X11_wrongHive m_in_X11 m_co_X11_wrongHive (by decide +kernel) ⟨Nat.le_of_ble_eq_true rfl, Nat.le_of_ble_eq_true rfl⟩ ⟨Nat.le_of_ble_eq_true rfl, Nat.le_of_ble_eq_true rfl⟩ rfl hl.1 rfl (Nat.le_of_ble_eq_true rfl) dX11_wrongRow_2 hK hI (fun r G1 H1 L1 hp hI => ?_)
  obtain ⟨v, rfl, ev, hG⟩ := hp
  subst ev
  rw [hG] at hI
  refine W.eq (g2 := F0 mI 5 ls [.int (wHv A s)]) rfl ?_
  refine lv_istore_n (lv' := [(2, .int (wHv A s)), (0, .ref mo), (1, .int s)]) hx hb dX11_wrongRow_5 rfl hl (by decide) rfl (fun ls hl => ?_)
  refine lv_iload_n hx hb dX11_wrongRow_6 rfl (lv_at hl 0 rfl) ?_
  refine lv_if_eq (tgt := 14) hx hb dX11_wrongRow_7 (by decide) (fun c_1 => ?_) (fun c_1 => ?_)
  · have q_2 := eqb_t c_1
    refine lv_aload_n hx hb dX11_wrongRow_14 rfl (lv_at hl 1 rfl) ?_
    refine x_get (index := 22) hx hb hts hown hK hI hM 5 (by decide) m_fl_X11_22 rfl dX11_wrongRow_15 rfl ?_
    refine lv_aload_n hx hb dX11_wrongRow_18 rfl (lv_at hl 1 rfl) ?_
    refine x_get (index := 7) hx hb hts hown hK hI hM 0 (by decide) m_fl_X11_7 rfl dX11_wrongRow_19 rfl ?_
    refine lv_iload_n hx hb dX11_wrongRow_22 rfl (lv_at hl 2 rfl) ?_
    refine x_ld hx hb hK hI hM 0 (by decide) (sh_in hs) dX11_wrongRow_23 ?_
    refine x_ld hx hb hK hI hM 5 (by decide) (hw.sh (sh_in hs)) dX11_wrongRow_24 ?_
    refine lv_if_ge (tgt := 32) hx hb dX11_wrongRow_25 (by decide) (fun c_3 => ?_) (fun c_3 => ?_)
    · have c_3 := Int32.not_lt.mpr c_3
      refine lv_iconst (v := 0) hx hb dX11_wrongRow_32 (by decide) ?_
      exact g_iret hx hb hr hlocks hI ⟨_, rfl, by simp only [wRw, q_2, c_3, reduceIte, Bool.false_eq_true, not_true_eq_false, not_false_eq_true], rfl⟩ dX11_wrongRow_33 (Nat.le_of_ble_eq_true rfl) (Nat.le_of_ble_eq_true rfl)
    · have c_3 := Int32.not_le.mp c_3
      refine lv_iconst (v := 1) hx hb dX11_wrongRow_28 (by decide) ?_
      refine lv_goto (tgt := 33) hx hb dX11_wrongRow_29 (by decide) ?_
      exact g_iret hx hb hr hlocks hI ⟨_, rfl, by simp only [wRw, q_2, c_3, reduceIte, Bool.false_eq_true, not_true_eq_false, not_false_eq_true], rfl⟩ dX11_wrongRow_33 (Nat.le_of_ble_eq_true rfl) (Nat.le_of_ble_eq_true rfl)
  · have q_4 := eqb_f c_1
    refine lv_iload_n hx hb dX11_wrongRow_10 rfl (lv_at hl 0 rfl) ?_
    refine lv_goto (tgt := 33) hx hb dX11_wrongRow_11 (by decide) ?_
    exact g_iret hx hb hr hlocks hI ⟨_, rfl, by simp only [wRw, q_4, reduceIte, Bool.false_eq_true, not_true_eq_false, not_false_eq_true], rfl⟩ dX11_wrongRow_33 (Nat.le_of_ble_eq_true rfl) (Nat.le_of_ble_eq_true rfl)
set_option maxHeartbeats 4000000 in
set_option maxRecDepth 100000 in
theorem c_X11_wrongSlot (l : Launch) (E : gE) (b0 : Nat) (G : gG) (mo : Nat) (ma : Nat → Nat) (A : gA) (hM : gMod E mo ma A G) (nn : Nat) (hw : wfb A nn) (s i : Int32) (hs : isSh s = true) : gM l yX11_wrongSlot cX11_wrongSlot 4 (some .int) 4 0 0 E b0 G [.ref mo, .int s, .int i] (pI (fun v9 G1 => v9 = wSl A s i ∧ G1 = G)) := by
  refine gM.of (by decide +kernel) (Nat.le_of_ble_eq_true rfl) ?_
  intro pP eP sP mI bP meth cP ls hx hb hr hml hown hlocks hnm hts hK hI hl
  have hl : lv_has ls 4 [(0, .ref mo), (1, .int s), (2, .int i)] := hl
  have hown : sP.vm.findClass RX11 = some mI.cls := hown
  refine lv_aload_n hx hb dX11_wrongSlot_0 rfl (lv_at hl 0 rfl) ?_
  refine lv_iload_n hx hb dX11_wrongSlot_1 rfl (lv_at hl 1 rfl) ?_
  refine g_callV (own := RX11) (index := 82) (n := 1) hx hb hml hown hts (c_X11_wrongRow l E b0 _ mo ma _ hM nn hw s hs) hM.1 rfl rfl m_ml_X11_82 m_im_X11_wrongRow m_se_X11_X11_wrongRow_X11_wrongRow m_in_X11 m_co_X11_wrongRow (by decide +kernel) ⟨Nat.le_of_ble_eq_true rfl, Nat.le_of_ble_eq_true rfl⟩ ⟨Nat.le_of_ble_eq_true rfl, Nat.le_of_ble_eq_true rfl⟩ rfl hl.1 rfl (Nat.le_of_ble_eq_true rfl) dX11_wrongSlot_2 hK hI (fun r G1 H1 L1 hp hI => ?_)
  obtain ⟨v, rfl, ev, hG⟩ := hp
  subst ev
  rw [hG] at hI
  refine W.eq (g2 := F0 mI 5 ls [.int (wRw A s)]) rfl ?_
  refine lv_istore_n (lv' := [(3, .int (wRw A s)), (0, .ref mo), (1, .int s), (2, .int i)]) hx hb dX11_wrongSlot_5 rfl hl (by decide) rfl (fun ls hl => ?_)
  refine lv_iload_n hx hb dX11_wrongSlot_6 rfl (lv_at hl 0 rfl) ?_
  refine lv_if_eq (tgt := 14) hx hb dX11_wrongSlot_7 (by decide) (fun c_1 => ?_) (fun c_1 => ?_)
  · have q_2 := eqb_t c_1
    refine lv_iload_n hx hb dX11_wrongSlot_14 rfl (lv_at hl 3 rfl) ?_
    refine lv_iconst (v := 0) hx hb dX11_wrongSlot_15 (by decide) ?_
    refine lv_aload_n hx hb dX11_wrongSlot_16 rfl (lv_at hl 1 rfl) ?_
    refine x_get (index := 22) hx hb hts hown hK hI hM 5 (by decide) m_fl_X11_22 rfl dX11_wrongSlot_17 rfl ?_
    refine lv_aload_n hx hb dX11_wrongSlot_20 rfl (lv_at hl 1 rfl) ?_
    refine x_get (index := 7) hx hb hts hown hK hI hM 0 (by decide) m_fl_X11_7 rfl dX11_wrongSlot_21 rfl ?_
    refine lv_iload_n hx hb dX11_wrongSlot_24 rfl (lv_at hl 2 rfl) ?_
    refine x_ld hx hb hK hI hM 0 (by decide) (sh_in hs) dX11_wrongSlot_25 ?_
    refine x_ld hx hb hK hI hM 5 (by decide) (hw.sh (sh_in hs)) dX11_wrongSlot_26 ?_
    refine lv_iconst (v := 1) hx hb dX11_wrongSlot_27 (by decide) ?_
    refine lv_isub hx hb dX11_wrongSlot_28 ?_
    refine g_callS (own := RX11) (index := 50) (n := 3) hx hb hml hown hts (c_X11_in l E b0 _ i 0 ((A 5 (ix (A 0 (ix s)))) - 1)) m_ml_X11_50 m_st_X11_in m_in_X11 m_co_X11_in (by decide +kernel) ⟨Nat.le_of_ble_eq_true rfl, Nat.le_of_ble_eq_true rfl⟩ ⟨Nat.le_of_ble_eq_true rfl, Nat.le_of_ble_eq_true rfl⟩ rfl hl.1 rfl (Nat.le_of_ble_eq_true rfl) dX11_wrongSlot_29 hK hI (fun r G1 H1 L1 hp hI => ?_)
    obtain ⟨v, rfl, hG, ⟨h_3, rfl⟩ | ⟨h_3, rfl⟩⟩ := hp
    · rw [hG] at hI
      refine W.eq (g2 := F0 mI 32 ls [.int 1]) rfl ?_
      refine lv_if_eq (tgt := 39) hx hb dX11_wrongSlot_32 (by decide) (fun c_4 => absurd c_4 (by decide)) (fun _ => ?_)
      refine lv_iconst (v := 0) hx hb dX11_wrongSlot_35 (by decide) ?_
      refine lv_goto (tgt := 40) hx hb dX11_wrongSlot_36 (by decide) ?_
      exact g_iret hx hb hr hlocks hI ⟨_, rfl, by simp only [wSl, q_2, h_3, reduceIte, Bool.false_eq_true, not_true_eq_false, not_false_eq_true], rfl⟩ dX11_wrongSlot_40 (Nat.le_of_ble_eq_true rfl) (Nat.le_of_ble_eq_true rfl)
    · rw [hG] at hI
      refine W.eq (g2 := F0 mI 32 ls [.int 0]) rfl ?_
      refine lv_if_eq (tgt := 39) hx hb dX11_wrongSlot_32 (by decide) (fun _ => ?_) (fun c_5 => absurd c_5 (by decide))
      refine lv_iconst (v := 3) hx hb dX11_wrongSlot_39 (by decide) ?_
      exact g_iret hx hb hr hlocks hI ⟨_, rfl, by simp only [wSl, q_2, h_3, reduceIte, Bool.false_eq_true, not_true_eq_false, not_false_eq_true], rfl⟩ dX11_wrongSlot_40 (Nat.le_of_ble_eq_true rfl) (Nat.le_of_ble_eq_true rfl)
  · have q_6 := eqb_f c_1
    refine lv_iload_n hx hb dX11_wrongSlot_10 rfl (lv_at hl 0 rfl) ?_
    refine lv_goto (tgt := 40) hx hb dX11_wrongSlot_11 (by decide) ?_
    exact g_iret hx hb hr hlocks hI ⟨_, rfl, by simp only [wSl, q_6, reduceIte, Bool.false_eq_true, not_true_eq_false, not_false_eq_true], rfl⟩ dX11_wrongSlot_40 (Nat.le_of_ble_eq_true rfl) (Nat.le_of_ble_eq_true rfl)
set_option maxHeartbeats 4000000 in
set_option maxRecDepth 100000 in
theorem c_X11_set (l : Launch) (E : gE) (b0 : Nat) (G : gG) (mo : Nat) (ma : Nat → Nat) (A : gA) (hM : gMod E mo ma A G) (nn : Nat) (hw : wfb A nn) (s so v : Int32) : gM l yX11_set cX11_set 4 (some .int) 5 0 0 E b0 G [.ref mo, .int s, .int so, .int v] (pI (fun v9 G1 => v9 = (sp_set A s so v).1 ∧ gMod E mo ma (sp_set A s so v).2 G1)) := by
  refine gM.of (by decide +kernel) (Nat.le_of_ble_eq_true rfl) ?_
  intro pP eP sP mI bP meth cP ls hx hb hr hml hown hlocks hnm hts hK hI hl
  have hl : lv_has ls 4 [(0, .ref mo), (1, .int s), (2, .int so), (3, .int v)] := hl
  have hown : sP.vm.findClass RX11 = some mI.cls := hown
  refine lv_iload_n hx hb dX11_set_0 rfl (lv_at hl 1 rfl) ?_
  refine g_callS (own := RX11) (index := 64) (n := 1) hx hb hml hown hts (c_X11_isShelf l E b0 _ s) m_ml_X11_64 m_st_X11_isShelf m_in_X11 m_co_X11_isShelf (by decide +kernel) ⟨Nat.le_of_ble_eq_true rfl, Nat.le_of_ble_eq_true rfl⟩ ⟨Nat.le_of_ble_eq_true rfl, Nat.le_of_ble_eq_true rfl⟩ rfl hl.1 rfl (Nat.le_of_ble_eq_true rfl) dX11_set_1 hK hI (fun r G1 H1 L1 hp hI => ?_)
  obtain ⟨v, rfl, hG, ⟨h_1, rfl⟩ | ⟨h_1, rfl⟩⟩ := hp
  · rw [hG] at hI
    refine W.eq (g2 := F0 mI 4 ls [.int 1]) rfl ?_
    refine lv_if_eq (tgt := 16) hx hb dX11_set_4 (by decide) (fun c_2 => absurd c_2 (by decide)) (fun _ => ?_)
    refine lv_iload_n hx hb dX11_set_7 rfl (lv_at hl 2 rfl) ?_
    refine lv_iconst (v := 0) hx hb dX11_set_8 (by decide) ?_
    refine lv_iconst (v := 5) hx hb dX11_set_9 (by decide) ?_
    refine g_callS (own := RX11) (index := 50) (n := 3) hx hb hml hown hts (c_X11_in l E b0 _ so 0 5) m_ml_X11_50 m_st_X11_in m_in_X11 m_co_X11_in (by decide +kernel) ⟨Nat.le_of_ble_eq_true rfl, Nat.le_of_ble_eq_true rfl⟩ ⟨Nat.le_of_ble_eq_true rfl, Nat.le_of_ble_eq_true rfl⟩ rfl hl.1 rfl (Nat.le_of_ble_eq_true rfl) dX11_set_10 hK hI (fun r G1 H1 L1 hp hI => ?_)
    obtain ⟨v, rfl, hG, ⟨h_3, rfl⟩ | ⟨h_3, rfl⟩⟩ := hp
    · rw [hG] at hI
      refine W.eq (g2 := F0 mI 13 ls [.int 1]) rfl ?_
      refine lv_if_ne (tgt := 18) hx hb dX11_set_13 (by decide) (fun _ => ?_) (fun c_4 => absurd c_4 (by decide))
      refine lv_aload_n hx hb dX11_set_18 rfl (lv_at hl 0 rfl) ?_
      refine x_get (index := 7) hx hb hts hown hK hI hM 0 (by decide) m_fl_X11_7 rfl dX11_set_19 rfl ?_
      refine lv_iload_n hx hb dX11_set_22 rfl (lv_at hl 1 rfl) ?_
      refine lv_aload_n hx hb dX11_set_23 rfl (lv_at hl 0 rfl) ?_
      refine lv_iload_n hx hb dX11_set_24 rfl (lv_at hl 2 rfl) ?_
      refine lv_iload_n hx hb dX11_set_25 rfl (lv_at hl 3 rfl) ?_
      refine g_callV (own := RX11) (index := 68) (n := 2) hx hb hml hown hts (c_X11_thing l E b0 _ mo ma _ hM so v hw.nx) hM.1 rfl rfl m_ml_X11_68 m_im_X11_thing m_se_X11_X11_thing_X11_thing m_in_X11 m_co_X11_thing (by decide +kernel) ⟨Nat.le_of_ble_eq_true rfl, Nat.le_of_ble_eq_true rfl⟩ ⟨Nat.le_of_ble_eq_true rfl, Nat.le_of_ble_eq_true rfl⟩ rfl hl.1 rfl (Nat.le_of_ble_eq_true rfl) dX11_set_26 hK hI (fun r G1 H1 L1 hp hI => ?_)
      obtain ⟨v, rfl, ev, hM⟩ := hp
      subst ev
      refine W.eq (g2 := F0 mI 29 ls [.int (A 1 0 + 1), .int s, .ref (ma 0)]) rfl ?_
      refine x_st hx hb hK hI hM 0 (by decide) (sh_in h_1) dX11_set_29 (fun G1 H1 L1 hM hI => ?_)
      refine lv_iload_n hx hb dX11_set_30 rfl (lv_at hl 2 rfl) ?_
      have e9 : sp_set A s so v = (so, (u2 (nthg A so v) 0 (ix s) (A 1 0 + 1))) := by
        simp only [sp_set, rfi, rfj, h_1, h_3, reduceIte, Bool.false_eq_true, not_true_eq_false, not_false_eq_true]
      exact g_iret hx hb hr hlocks hI ⟨_, rfl, by rw [e9], by rw [e9]; exact hM⟩ dX11_set_31 (Nat.le_of_ble_eq_true rfl) (Nat.le_of_ble_eq_true rfl)
    · rw [hG] at hI
      refine W.eq (g2 := F0 mI 13 ls [.int 0]) rfl ?_
      refine lv_if_ne (tgt := 18) hx hb dX11_set_13 (by decide) (fun c_5 => absurd c_5 (by decide)) (fun _ => ?_)
      refine lv_iconst (v := -1) hx hb dX11_set_16 (by decide) ?_
      have e9 : sp_set A s so v = ((-1), A) := by
        simp only [sp_set, rfi, rfj, h_1, h_3, reduceIte, Bool.false_eq_true, not_true_eq_false, not_false_eq_true]
      exact g_iret hx hb hr hlocks hI ⟨_, rfl, by rw [e9], by rw [e9]; exact hM⟩ dX11_set_17 (Nat.le_of_ble_eq_true rfl) (Nat.le_of_ble_eq_true rfl)
  · rw [hG] at hI
    refine W.eq (g2 := F0 mI 4 ls [.int 0]) rfl ?_
    refine lv_if_eq (tgt := 16) hx hb dX11_set_4 (by decide) (fun _ => ?_) (fun c_6 => absurd c_6 (by decide))
    refine lv_iconst (v := -1) hx hb dX11_set_16 (by decide) ?_
    have e9 : sp_set A s so v = ((-1), A) := by
      simp only [sp_set, rfi, rfj, h_1, reduceIte, Bool.false_eq_true, not_true_eq_false, not_false_eq_true]
    exact g_iret hx hb hr hlocks hI ⟨_, rfl, by rw [e9], by rw [e9]; exact hM⟩ dX11_set_17 (Nat.le_of_ble_eq_true rfl) (Nat.le_of_ble_eq_true rfl)
set_option maxHeartbeats 4000000 in
set_option maxRecDepth 100000 in
theorem c_X11_share (l : Launch) (E : gE) (b0 : Nat) (G : gG) (mo : Nat) (ma : Nat → Nat) (A : gA) (hM : gMod E mo ma A G) (nn : Nat) (hw : wfb A nn) (s f : Int32) : gM l yX11_share cX11_share 3 (some .int) 5 0 0 E b0 G [.ref mo, .int s, .int f] (pI (fun v9 G1 => v9 = (sp_share A s f).1 ∧ gMod E mo ma (sp_share A s f).2 G1)) := by
  refine gM.of (by decide +kernel) (Nat.le_of_ble_eq_true rfl) ?_
  intro pP eP sP mI bP meth cP ls hx hb hr hml hown hlocks hnm hts hK hI hl
  have hl : lv_has ls 3 [(0, .ref mo), (1, .int s), (2, .int f)] := hl
  have hown : sP.vm.findClass RX11 = some mI.cls := hown
  refine lv_iload_n hx hb dX11_share_0 rfl (lv_at hl 1 rfl) ?_
  refine g_callS (own := RX11) (index := 64) (n := 1) hx hb hml hown hts (c_X11_isShelf l E b0 _ s) m_ml_X11_64 m_st_X11_isShelf m_in_X11 m_co_X11_isShelf (by decide +kernel) ⟨Nat.le_of_ble_eq_true rfl, Nat.le_of_ble_eq_true rfl⟩ ⟨Nat.le_of_ble_eq_true rfl, Nat.le_of_ble_eq_true rfl⟩ rfl hl.1 rfl (Nat.le_of_ble_eq_true rfl) dX11_share_1 hK hI (fun r G1 H1 L1 hp hI => ?_)
  obtain ⟨v, rfl, hG, ⟨h_1, rfl⟩ | ⟨h_1, rfl⟩⟩ := hp
  · rw [hG] at hI
    refine W.eq (g2 := F0 mI 4 ls [.int 1]) rfl ?_
    refine lv_if_eq (tgt := 14) hx hb dX11_share_4 (by decide) (fun c_2 => absurd c_2 (by decide)) (fun _ => ?_)
    refine lv_iload_n hx hb dX11_share_7 rfl (lv_at hl 2 rfl) ?_
    refine g_callS (own := RX11) (index := 64) (n := 1) hx hb hml hown hts (c_X11_isShelf l E b0 _ f) m_ml_X11_64 m_st_X11_isShelf m_in_X11 m_co_X11_isShelf (by decide +kernel) ⟨Nat.le_of_ble_eq_true rfl, Nat.le_of_ble_eq_true rfl⟩ ⟨Nat.le_of_ble_eq_true rfl, Nat.le_of_ble_eq_true rfl⟩ rfl hl.1 rfl (Nat.le_of_ble_eq_true rfl) dX11_share_8 hK hI (fun r G1 H1 L1 hp hI => ?_)
    obtain ⟨v, rfl, hG, ⟨h_3, rfl⟩ | ⟨h_3, rfl⟩⟩ := hp
    · rw [hG] at hI
      refine W.eq (g2 := F0 mI 11 ls [.int 1]) rfl ?_
      refine lv_if_ne (tgt := 16) hx hb dX11_share_11 (by decide) (fun _ => ?_) (fun c_4 => absurd c_4 (by decide))
      refine lv_aload_n hx hb dX11_share_16 rfl (lv_at hl 0 rfl) ?_
      refine x_get (index := 7) hx hb hts hown hK hI hM 0 (by decide) m_fl_X11_7 rfl dX11_share_17 rfl ?_
      refine lv_iload_n hx hb dX11_share_20 rfl (lv_at hl 1 rfl) ?_
      refine lv_aload_n hx hb dX11_share_21 rfl (lv_at hl 0 rfl) ?_
      refine x_get (index := 7) hx hb hts hown hK hI hM 0 (by decide) m_fl_X11_7 rfl dX11_share_22 rfl ?_
      refine lv_iload_n hx hb dX11_share_25 rfl (lv_at hl 2 rfl) ?_
      refine x_ld hx hb hK hI hM 0 (by decide) (sh_in h_3) dX11_share_26 ?_
      refine x_st hx hb hK hI hM 0 (by decide) (sh_in h_1) dX11_share_27 (fun G1 H1 L1 hM hI => ?_)
      refine lv_aload_n hx hb dX11_share_28 rfl (lv_at hl 0 rfl) ?_
      refine x_get (index := 7) hx hb hts hown hK hI hM 0 (by decide) m_fl_X11_7 rfl dX11_share_29 rfl ?_
      refine lv_iload_n hx hb dX11_share_32 rfl (lv_at hl 1 rfl) ?_
      refine x_ld hx hb hK hI hM 0 (by decide) (sh_in h_1) dX11_share_33 ?_
      refine lv_if_ne (tgt := 41) hx hb dX11_share_34 (by decide) (fun c_5 => ?_) (fun c_5 => ?_)
      · have q_6 := eqb_f c_5
        refine lv_iconst (v := 1) hx hb dX11_share_41 (by decide) ?_
        have e9 : sp_share A s f = (1, (u2 A 0 (ix s) (A 0 (ix f)))) := by
          simp only [sp_share, rfi, rfj, h_1, h_3, q_6, reduceIte, Bool.false_eq_true, not_true_eq_false, not_false_eq_true]
        exact g_iret hx hb hr hlocks hI ⟨_, rfl, by rw [e9], by rw [e9]; exact hM⟩ dX11_share_42 (Nat.le_of_ble_eq_true rfl) (Nat.le_of_ble_eq_true rfl)
      · have q_7 := eqb_t c_5
        refine lv_iconst (v := 0) hx hb dX11_share_37 (by decide) ?_
        refine lv_goto (tgt := 42) hx hb dX11_share_38 (by decide) ?_
        have e9 : sp_share A s f = (0, (u2 A 0 (ix s) (A 0 (ix f)))) := by
          simp only [sp_share, rfi, rfj, h_1, h_3, q_7, reduceIte, Bool.false_eq_true, not_true_eq_false, not_false_eq_true]
        exact g_iret hx hb hr hlocks hI ⟨_, rfl, by rw [e9], by rw [e9]; exact hM⟩ dX11_share_42 (Nat.le_of_ble_eq_true rfl) (Nat.le_of_ble_eq_true rfl)
    · rw [hG] at hI
      refine W.eq (g2 := F0 mI 11 ls [.int 0]) rfl ?_
      refine lv_if_ne (tgt := 16) hx hb dX11_share_11 (by decide) (fun c_8 => absurd c_8 (by decide)) (fun _ => ?_)
      refine lv_iconst (v := -1) hx hb dX11_share_14 (by decide) ?_
      have e9 : sp_share A s f = ((-1), A) := by
        simp only [sp_share, rfi, rfj, h_1, h_3, reduceIte, Bool.false_eq_true, not_true_eq_false, not_false_eq_true]
      exact g_iret hx hb hr hlocks hI ⟨_, rfl, by rw [e9], by rw [e9]; exact hM⟩ dX11_share_15 (Nat.le_of_ble_eq_true rfl) (Nat.le_of_ble_eq_true rfl)
  · rw [hG] at hI
    refine W.eq (g2 := F0 mI 4 ls [.int 0]) rfl ?_
    refine lv_if_eq (tgt := 14) hx hb dX11_share_4 (by decide) (fun _ => ?_) (fun c_9 => absurd c_9 (by decide))
    refine lv_iconst (v := -1) hx hb dX11_share_14 (by decide) ?_
    have e9 : sp_share A s f = ((-1), A) := by
      simp only [sp_share, rfi, rfj, h_1, reduceIte, Bool.false_eq_true, not_true_eq_false, not_false_eq_true]
    exact g_iret hx hb hr hlocks hI ⟨_, rfl, by rw [e9], by rw [e9]; exact hM⟩ dX11_share_15 (Nat.le_of_ble_eq_true rfl) (Nat.le_of_ble_eq_true rfl)
set_option maxHeartbeats 4000000 in
set_option maxRecDepth 100000 in
theorem c_X11_clear (l : Launch) (E : gE) (b0 : Nat) (G : gG) (mo : Nat) (ma : Nat → Nat) (A : gA) (hM : gMod E mo ma A G) (nn : Nat) (hw : wfb A nn) (s : Int32) : gM l yX11_clear cX11_clear 3 (some .int) 5 0 0 E b0 G [.ref mo, .int s] (pI (fun v9 G1 => v9 = (sp_clear A s).1 ∧ gMod E mo ma (sp_clear A s).2 G1)) := by
  refine gM.of (by decide +kernel) (Nat.le_of_ble_eq_true rfl) ?_
  intro pP eP sP mI bP meth cP ls hx hb hr hml hown hlocks hnm hts hK hI hl
  have hl : lv_has ls 3 [(0, .ref mo), (1, .int s)] := hl
  have hown : sP.vm.findClass RX11 = some mI.cls := hown
  refine lv_iload_n hx hb dX11_clear_0 rfl (lv_at hl 1 rfl) ?_
  refine g_callS (own := RX11) (index := 64) (n := 1) hx hb hml hown hts (c_X11_isShelf l E b0 _ s) m_ml_X11_64 m_st_X11_isShelf m_in_X11 m_co_X11_isShelf (by decide +kernel) ⟨Nat.le_of_ble_eq_true rfl, Nat.le_of_ble_eq_true rfl⟩ ⟨Nat.le_of_ble_eq_true rfl, Nat.le_of_ble_eq_true rfl⟩ rfl hl.1 rfl (Nat.le_of_ble_eq_true rfl) dX11_clear_1 hK hI (fun r G1 H1 L1 hp hI => ?_)
  obtain ⟨v, rfl, hG, ⟨h_1, rfl⟩ | ⟨h_1, rfl⟩⟩ := hp
  · rw [hG] at hI
    refine W.eq (g2 := F0 mI 4 ls [.int 1]) rfl ?_
    refine lv_if_ne (tgt := 9) hx hb dX11_clear_4 (by decide) (fun _ => ?_) (fun c_2 => absurd c_2 (by decide))
    refine lv_aload_n hx hb dX11_clear_9 rfl (lv_at hl 0 rfl) ?_
    refine x_get (index := 7) hx hb hts hown hK hI hM 0 (by decide) m_fl_X11_7 rfl dX11_clear_10 rfl ?_
    refine lv_iload_n hx hb dX11_clear_13 rfl (lv_at hl 1 rfl) ?_
    refine x_ld hx hb hK hI hM 0 (by decide) (sh_in h_1) dX11_clear_14 ?_
    refine lv_if_ne (tgt := 22) hx hb dX11_clear_15 (by decide) (fun c_3 => ?_) (fun c_3 => ?_)
    · have q_4 := eqb_f c_3
      refine lv_iconst (v := 1) hx hb dX11_clear_22 (by decide) ?_
      refine lv_istore_n (lv' := [(2, .int 1), (0, .ref mo), (1, .int s)]) hx hb dX11_clear_23 rfl hl (by decide) rfl (fun ls hl => ?_)
      refine lv_aload_n hx hb dX11_clear_24 rfl (lv_at hl 1 rfl) ?_
      refine x_get (index := 7) hx hb hts hown hK hI hM 0 (by decide) m_fl_X11_7 rfl dX11_clear_25 rfl ?_
      refine lv_iload_n hx hb dX11_clear_28 rfl (lv_at hl 2 rfl) ?_
      refine lv_iconst (v := 0) hx hb dX11_clear_29 (by decide) ?_
      refine x_st hx hb hK hI hM 0 (by decide) (sh_in h_1) dX11_clear_30 (fun G1 H1 L1 hM hI => ?_)
      refine lv_iload_n hx hb dX11_clear_31 rfl (lv_at hl 0 rfl) ?_
      have e9 : sp_clear A s = (1, (u2 A 0 (ix s) 0)) := by
        simp only [sp_clear, rfi, rfj, h_1, q_4, reduceIte, Bool.false_eq_true, not_true_eq_false, not_false_eq_true]
      exact g_iret hx hb hr hlocks hI ⟨_, rfl, by rw [e9], by rw [e9]; exact hM⟩ dX11_clear_32 (Nat.le_of_ble_eq_true rfl) (Nat.le_of_ble_eq_true rfl)
    · have q_5 := eqb_t c_3
      refine lv_iconst (v := 0) hx hb dX11_clear_18 (by decide) ?_
      refine lv_goto (tgt := 23) hx hb dX11_clear_19 (by decide) ?_
      refine lv_istore_n (lv' := [(2, .int 0), (0, .ref mo), (1, .int s)]) hx hb dX11_clear_23 rfl hl (by decide) rfl (fun ls hl => ?_)
      refine lv_aload_n hx hb dX11_clear_24 rfl (lv_at hl 1 rfl) ?_
      refine x_get (index := 7) hx hb hts hown hK hI hM 0 (by decide) m_fl_X11_7 rfl dX11_clear_25 rfl ?_
      refine lv_iload_n hx hb dX11_clear_28 rfl (lv_at hl 2 rfl) ?_
      refine lv_iconst (v := 0) hx hb dX11_clear_29 (by decide) ?_
      refine x_st hx hb hK hI hM 0 (by decide) (sh_in h_1) dX11_clear_30 (fun G1 H1 L1 hM hI => ?_)
      refine lv_iload_n hx hb dX11_clear_31 rfl (lv_at hl 0 rfl) ?_
      have e9 : sp_clear A s = (0, (u2 A 0 (ix s) 0)) := by
        simp only [sp_clear, rfi, rfj, h_1, q_5, reduceIte, Bool.false_eq_true, not_true_eq_false, not_false_eq_true]
      exact g_iret hx hb hr hlocks hI ⟨_, rfl, by rw [e9], by rw [e9]; exact hM⟩ dX11_clear_32 (Nat.le_of_ble_eq_true rfl) (Nat.le_of_ble_eq_true rfl)
  · rw [hG] at hI
    refine W.eq (g2 := F0 mI 4 ls [.int 0]) rfl ?_
    refine lv_if_ne (tgt := 9) hx hb dX11_clear_4 (by decide) (fun c_6 => absurd c_6 (by decide)) (fun _ => ?_)
    refine lv_iconst (v := -1) hx hb dX11_clear_7 (by decide) ?_
    have e9 : sp_clear A s = ((-1), A) := by
      simp only [sp_clear, rfi, rfj, h_1, reduceIte, Bool.false_eq_true, not_true_eq_false, not_false_eq_true]
    exact g_iret hx hb hr hlocks hI ⟨_, rfl, by rw [e9], by rw [e9]; exact hM⟩ dX11_clear_8 (Nat.le_of_ble_eq_true rfl) (Nat.le_of_ble_eq_true rfl)
set_option maxHeartbeats 4000000 in
set_option maxRecDepth 100000 in
theorem c_X11_give (l : Launch) (E : gE) (b0 : Nat) (G : gG) (mo : Nat) (ma : Nat → Nat) (A : gA) (hM : gMod E mo ma A G) (nn : Nat) (hw : wfb A nn) (s w f : Int32) : gM l yX11_give cX11_give 7 (some .int) 5 0 0 E b0 G [.ref mo, .int s, .int w, .int f] (pI (fun v9 G1 => v9 = (sp_give A s w f).1 ∧ gMod E mo ma (sp_give A s w f).2 G1)) := by
  refine gM.of (by decide +kernel) (Nat.le_of_ble_eq_true rfl) ?_
  intro pP eP sP mI bP meth cP ls hx hb hr hml hown hlocks hnm hts hK hI hl
  have hl : lv_has ls 7 [(0, .ref mo), (1, .int s), (2, .int w), (3, .int f)] := hl
  have hown : sP.vm.findClass RX11 = some mI.cls := hown
  refine lv_iload_n hx hb dX11_give_0 rfl (lv_at hl 1 rfl) ?_
  refine g_callS (own := RX11) (index := 64) (n := 1) hx hb hml hown hts (c_X11_isShelf l E b0 _ s) m_ml_X11_64 m_st_X11_isShelf m_in_X11 m_co_X11_isShelf (by decide +kernel) ⟨Nat.le_of_ble_eq_true rfl, Nat.le_of_ble_eq_true rfl⟩ ⟨Nat.le_of_ble_eq_true rfl, Nat.le_of_ble_eq_true rfl⟩ rfl hl.1 rfl (Nat.le_of_ble_eq_true rfl) dX11_give_1 hK hI (fun r G1 H1 L1 hp hI => ?_)
  obtain ⟨v, rfl, hG, ⟨h_1, rfl⟩ | ⟨h_1, rfl⟩⟩ := hp
  · rw [hG] at hI
    refine W.eq (g2 := F0 mI 4 ls [.int 1]) rfl ?_
    refine lv_if_eq (tgt := 23) hx hb dX11_give_4 (by decide) (fun c_2 => absurd c_2 (by decide)) (fun _ => ?_)
    refine lv_iload_n hx hb dX11_give_7 rfl (lv_at hl 2 rfl) ?_
    refine lv_iconst (v := 0) hx hb dX11_give_8 (by decide) ?_
    refine lv_iconst (v := 2) hx hb dX11_give_9 (by decide) ?_
    refine g_callS (own := RX11) (index := 50) (n := 3) hx hb hml hown hts (c_X11_in l E b0 _ w 0 2) m_ml_X11_50 m_st_X11_in m_in_X11 m_co_X11_in (by decide +kernel) ⟨Nat.le_of_ble_eq_true rfl, Nat.le_of_ble_eq_true rfl⟩ ⟨Nat.le_of_ble_eq_true rfl, Nat.le_of_ble_eq_true rfl⟩ rfl hl.1 rfl (Nat.le_of_ble_eq_true rfl) dX11_give_10 hK hI (fun r G1 H1 L1 hp hI => ?_)
    obtain ⟨v, rfl, hG, ⟨h_3, rfl⟩ | ⟨h_3, rfl⟩⟩ := hp
    · rw [hG] at hI
      refine W.eq (g2 := F0 mI 13 ls [.int 1]) rfl ?_
      refine lv_if_eq (tgt := 23) hx hb dX11_give_13 (by decide) (fun c_4 => absurd c_4 (by decide)) (fun _ => ?_)
      refine lv_iload_n hx hb dX11_give_16 rfl (lv_at hl 3 rfl) ?_
      refine g_callS (own := RX11) (index := 64) (n := 1) hx hb hml hown hts (c_X11_isShelf l E b0 _ f) m_ml_X11_64 m_st_X11_isShelf m_in_X11 m_co_X11_isShelf (by decide +kernel) ⟨Nat.le_of_ble_eq_true rfl, Nat.le_of_ble_eq_true rfl⟩ ⟨Nat.le_of_ble_eq_true rfl, Nat.le_of_ble_eq_true rfl⟩ rfl hl.1 rfl (Nat.le_of_ble_eq_true rfl) dX11_give_17 hK hI (fun r G1 H1 L1 hp hI => ?_)
      obtain ⟨v, rfl, hG, ⟨h_5, rfl⟩ | ⟨h_5, rfl⟩⟩ := hp
      · rw [hG] at hI
        refine W.eq (g2 := F0 mI 20 ls [.int 1]) rfl ?_
        refine lv_if_ne (tgt := 25) hx hb dX11_give_20 (by decide) (fun _ => ?_) (fun c_6 => absurd c_6 (by decide))
        refine lv_aload_n hx hb dX11_give_25 rfl (lv_at hl 0 rfl) ?_
        refine x_get (index := 7) hx hb hts hown hK hI hM 0 (by decide) m_fl_X11_7 rfl dX11_give_26 rfl ?_
        refine lv_iload_n hx hb dX11_give_29 rfl (lv_at hl 3 rfl) ?_
        refine x_ld hx hb hK hI hM 0 (by decide) (sh_in h_5) dX11_give_30 ?_
        refine lv_istore (lv' := [(4, .int (A 0 (ix f))), (0, .ref mo), (1, .int s), (2, .int w), (3, .int f)]) hx hb dX11_give_31 hl (by decide) rfl (fun ls hl => ?_)
        refine lv_iload_n hx hb dX11_give_33 rfl (lv_at hl 3 rfl) ?_
        refine lv_if_ne (tgt := 48) hx hb dX11_give_34 (by decide) (fun c_7 => ?_) (fun c_7 => ?_)
        · have q_8 := eqb_f c_7
          refine lv_iload_n hx hb dX11_give_48 rfl (lv_at hl 3 rfl) ?_
          refine lv_iconst (v := 1) hx hb dX11_give_49 (by decide) ?_
          refine lv_icmp_ne (tgt := 64) hx hb dX11_give_50 (by decide) (fun c_9 => ?_) (fun c_9 => ?_)
          · have q_10 := eqb_f c_9
            refine lv_aload_n hx hb dX11_give_64 rfl (lv_at hl 1 rfl) ?_
            refine lv_iload hx hb dX11_give_65 (lv_at hl 0 rfl) ?_
            refine lv_iconst (v := 5) hx hb dX11_give_67 (by decide) ?_
            refine lv_iconst (v := 5) hx hb dX11_give_68 (by decide) ?_
            refine g_callV (own := RX11) (index := 76) (n := 3) hx hb hml hown hts (c_X11_fits l E b0 _ mo ma _ hM (A 0 (ix f)) 5 5 (hw.sh (sh_in h_5))) hM.1 rfl rfl m_ml_X11_76 m_im_X11_fits m_se_X11_X11_fits_X11_fits m_in_X11 m_co_X11_fits (by decide +kernel) ⟨Nat.le_of_ble_eq_true rfl, Nat.le_of_ble_eq_true rfl⟩ ⟨Nat.le_of_ble_eq_true rfl, Nat.le_of_ble_eq_true rfl⟩ rfl hl.1 rfl (Nat.le_of_ble_eq_true rfl) dX11_give_69 hK hI (fun r G1 H1 L1 hp hI => ?_)
            obtain ⟨v, rfl, hG, ⟨h_11, rfl⟩ | ⟨h_11, rfl⟩⟩ := hp
            · rw [hG] at hI
              refine W.eq (g2 := F0 mI 72 ls [.int 1]) rfl ?_
              refine lv_istore (lv' := [(5, .int 1), (4, .int (A 0 (ix f))), (0, .ref mo), (1, .int s), (2, .int w), (3, .int f)]) hx hb dX11_give_72 hl (by decide) rfl (fun ls hl => ?_)
              refine lv_aload_n hx hb dX11_give_74 rfl (lv_at hl 2 rfl) ?_
              refine lv_aload_n hx hb dX11_give_75 rfl (lv_at hl 2 rfl) ?_
              refine x_get (index := 7) hx hb hts hown hK hI hM 0 (by decide) m_fl_X11_7 rfl dX11_give_76 rfl ?_
              refine lv_iload_n hx hb dX11_give_79 rfl (lv_at hl 3 rfl) ?_
              refine x_ld hx hb hK hI hM 0 (by decide) (sh_in h_1) dX11_give_80 ?_
              refine lv_bipush (v := 6) hx hb dX11_give_81 (by decide) ?_
              refine lv_bipush (v := 7) hx hb dX11_give_83 (by decide) ?_
              refine g_callV (own := RX11) (index := 76) (n := 3) hx hb hml hown hts (c_X11_fits l E b0 _ mo ma _ hM (A 0 (ix s)) 6 7 (hw.sh (sh_in h_1))) hM.1 rfl rfl m_ml_X11_76 m_im_X11_fits m_se_X11_X11_fits_X11_fits m_in_X11 m_co_X11_fits (by decide +kernel) ⟨Nat.le_of_ble_eq_true rfl, Nat.le_of_ble_eq_true rfl⟩ ⟨Nat.le_of_ble_eq_true rfl, Nat.le_of_ble_eq_true rfl⟩ rfl hl.1 rfl (Nat.le_of_ble_eq_true rfl) dX11_give_85 hK hI (fun r G1 H1 L1 hp hI => ?_)
              obtain ⟨v, rfl, hG, ⟨h_12, rfl⟩ | ⟨h_12, rfl⟩⟩ := hp
              · rw [hG] at hI
                refine W.eq (g2 := F0 mI 88 ls [.int 1]) rfl ?_
                refine lv_if_eq (tgt := 96) hx hb dX11_give_88 (by decide) (fun c_13 => absurd c_13 (by decide)) (fun _ => ?_)
                refine lv_iload hx hb dX11_give_91 (lv_at hl 0 rfl) ?_
                refine lv_if_ne (tgt := 102) hx hb dX11_give_93 (by decide) (fun _ => ?_) (fun c_14 => absurd c_14 (by decide))
                refine lv_aload_n hx hb dX11_give_102 rfl (lv_at hl 2 rfl) ?_
                refine x_get (index := 7) hx hb hts hown hK hI hM 0 (by decide) m_fl_X11_7 rfl dX11_give_103 rfl ?_
                refine lv_iload_n hx hb dX11_give_106 rfl (lv_at hl 3 rfl) ?_
                refine x_ld hx hb hK hI hM 0 (by decide) (sh_in h_1) dX11_give_107 ?_
                refine lv_istore (lv' := [(6, .int (A 0 (ix s))), (5, .int 1), (4, .int (A 0 (ix f))), (0, .ref mo), (1, .int s), (2, .int w), (3, .int f)]) hx hb dX11_give_108 hl (by decide) rfl (fun ls hl => ?_)
                refine lv_iload hx hb dX11_give_110 (lv_at hl 0 rfl) ?_
                refine lv_if_ne (tgt := 121) hx hb dX11_give_112 (by decide) (fun c_15 => ?_) (fun c_15 => ?_)
                · have q_16 := eqb_f c_15
                  refine lv_iload_n hx hb dX11_give_121 rfl (lv_at hl 5 rfl) ?_
                  refine lv_if_ne (tgt := 137) hx hb dX11_give_122 (by decide) (fun _ => ?_) (fun c_17 => by first | exact absurd c_7 c_17 | exact absurd c_17 c_7 | (simp_all; done))
                  refine lv_iload_n hx hb dX11_give_137 rfl (lv_at hl 5 rfl) ?_
                  refine lv_iconst (v := 1) hx hb dX11_give_138 (by decide) ?_
                  refine lv_icmp_ne (tgt := 154) hx hb dX11_give_139 (by decide) (fun _ => ?_) (fun c_18 => by first | exact absurd c_9 c_18 | exact absurd c_18 c_9 | (simp_all; done))
                  refine lv_aload_n hx hb dX11_give_154 rfl (lv_at hl 3 rfl) ?_
                  refine x_get (index := 44) hx hb hts hown hK hI hM 12 (by decide) m_fl_X11_44 rfl dX11_give_155 rfl ?_
                  refine lv_iload hx hb dX11_give_158 (lv_at hl 0 rfl) ?_
                  refine lv_iload hx hb dX11_give_160 (lv_at hl 2 rfl) ?_
                  refine x_st hx hb hK hI hM 12 (by decide) (hw.sh (sh_in h_1)) dX11_give_162 (fun G1 H1 L1 hM hI => ?_)
                  refine lv_iload hx hb dX11_give_163 (lv_at hl 2 rfl) ?_
                  refine lv_if_ne (tgt := 172) hx hb dX11_give_165 (by decide) (fun c_19 => ?_) (fun c_19 => ?_)
                  · have q_20 := eqb_f c_19
                    refine lv_iconst (v := 1) hx hb dX11_give_172 (by decide) ?_
                    have e9 : sp_give A s w f = (1, (u2 A 12 (ix (A 0 (ix s))) (A 0 (ix f)))) := by
                      simp only [sp_give, rfi, rfj, h_1, h_3, h_5, q_8, q_10, h_11, h_12, q_16, q_20, reduceIte, Bool.false_eq_true, not_true_eq_false, not_false_eq_true]
                    exact g_iret hx hb hr hlocks hI ⟨_, rfl, by rw [e9], by rw [e9]; exact hM⟩ dX11_give_173 (Nat.le_of_ble_eq_true rfl) (Nat.le_of_ble_eq_true rfl)
                  · have q_21 := eqb_t c_19
                    refine lv_iconst (v := 0) hx hb dX11_give_168 (by decide) ?_
                    refine lv_goto (tgt := 173) hx hb dX11_give_169 (by decide) ?_
                    have e9 : sp_give A s w f = (0, (u2 A 12 (ix (A 0 (ix s))) (A 0 (ix f)))) := by
                      simp only [sp_give, rfi, rfj, h_1, h_3, h_5, q_8, q_10, h_11, h_12, q_16, q_21, reduceIte, Bool.false_eq_true, not_true_eq_false, not_false_eq_true]
                    exact g_iret hx hb hr hlocks hI ⟨_, rfl, by rw [e9], by rw [e9]; exact hM⟩ dX11_give_173 (Nat.le_of_ble_eq_true rfl) (Nat.le_of_ble_eq_true rfl)
                · have q_22 := eqb_t c_15
                  refine lv_aload_n hx hb dX11_give_115 rfl (lv_at hl 3 rfl) ?_
                  refine lv_iconst (v := 1) hx hb dX11_give_116 (by decide) ?_
                  refine g_callV (own := RX11) (index := 56) (n := 1) hx hb hml hown hts (c_X11_refuse l E b0 _ mo ma _ hM 1 (vp_in_iff.mpr (by decide))) hM.1 rfl rfl m_ml_X11_56 m_im_X11_refuse m_se_X11_X11_refuse_X11_refuse m_in_X11 m_co_X11_refuse (by decide +kernel) ⟨Nat.le_of_ble_eq_true rfl, Nat.le_of_ble_eq_true rfl⟩ ⟨Nat.le_of_ble_eq_true rfl, Nat.le_of_ble_eq_true rfl⟩ rfl hl.1 rfl (Nat.le_of_ble_eq_true rfl) dX11_give_117 hK hI (fun r G1 H1 L1 hp hI => ?_)
                  obtain ⟨v, rfl, ev, hM⟩ := hp
                  subst ev
                  refine W.eq (g2 := F0 mI 120 ls [.int (-10 - 1)]) rfl ?_
                  have e9 : sp_give A s w f = ((-10 - 1), (rfs A 1)) := by
                    simp only [sp_give, rfi, rfj, h_1, h_3, h_5, q_8, q_10, h_11, h_12, q_22, reduceIte, Bool.false_eq_true, not_true_eq_false, not_false_eq_true]
                  exact g_iret hx hb hr hlocks hI ⟨_, rfl, by rw [e9], by rw [e9]; exact hM⟩ dX11_give_120 (Nat.le_of_ble_eq_true rfl) (Nat.le_of_ble_eq_true rfl)
              · rw [hG] at hI
                refine W.eq (g2 := F0 mI 88 ls [.int 0]) rfl ?_
                refine lv_if_eq (tgt := 96) hx hb dX11_give_88 (by decide) (fun _ => ?_) (fun c_23 => absurd c_23 (by decide))
                refine lv_aload_n hx hb dX11_give_96 rfl (lv_at hl 2 rfl) ?_
                refine lv_iconst (v := 5) hx hb dX11_give_97 (by decide) ?_
                refine g_callV (own := RX11) (index := 56) (n := 1) hx hb hml hown hts (c_X11_refuse l E b0 _ mo ma _ hM 5 (vp_in_iff.mpr (by decide))) hM.1 rfl rfl m_ml_X11_56 m_im_X11_refuse m_se_X11_X11_refuse_X11_refuse m_in_X11 m_co_X11_refuse (by decide +kernel) ⟨Nat.le_of_ble_eq_true rfl, Nat.le_of_ble_eq_true rfl⟩ ⟨Nat.le_of_ble_eq_true rfl, Nat.le_of_ble_eq_true rfl⟩ rfl hl.1 rfl (Nat.le_of_ble_eq_true rfl) dX11_give_98 hK hI (fun r G1 H1 L1 hp hI => ?_)
                obtain ⟨v, rfl, ev, hM⟩ := hp
                subst ev
                refine W.eq (g2 := F0 mI 101 ls [.int (-10 - 5)]) rfl ?_
                have e9 : sp_give A s w f = ((-10 - 5), (rfs A 5)) := by
                  simp only [sp_give, rfi, rfj, h_1, h_3, h_5, q_8, q_10, h_11, h_12, reduceIte, Bool.false_eq_true, not_true_eq_false, not_false_eq_true]
                exact g_iret hx hb hr hlocks hI ⟨_, rfl, by rw [e9], by rw [e9]; exact hM⟩ dX11_give_101 (Nat.le_of_ble_eq_true rfl) (Nat.le_of_ble_eq_true rfl)
            · rw [hG] at hI
              refine W.eq (g2 := F0 mI 72 ls [.int 0]) rfl ?_
              refine lv_istore (lv' := [(5, .int 0), (4, .int (A 0 (ix f))), (0, .ref mo), (1, .int s), (2, .int w), (3, .int f)]) hx hb dX11_give_72 hl (by decide) rfl (fun ls hl => ?_)
              refine lv_aload_n hx hb dX11_give_74 rfl (lv_at hl 2 rfl) ?_
              refine lv_aload_n hx hb dX11_give_75 rfl (lv_at hl 2 rfl) ?_
              refine x_get (index := 7) hx hb hts hown hK hI hM 0 (by decide) m_fl_X11_7 rfl dX11_give_76 rfl ?_
              refine lv_iload_n hx hb dX11_give_79 rfl (lv_at hl 3 rfl) ?_
              refine x_ld hx hb hK hI hM 0 (by decide) (sh_in h_1) dX11_give_80 ?_
              refine lv_bipush (v := 6) hx hb dX11_give_81 (by decide) ?_
              refine lv_bipush (v := 7) hx hb dX11_give_83 (by decide) ?_
              refine g_callV (own := RX11) (index := 76) (n := 3) hx hb hml hown hts (c_X11_fits l E b0 _ mo ma _ hM (A 0 (ix s)) 6 7 (hw.sh (sh_in h_1))) hM.1 rfl rfl m_ml_X11_76 m_im_X11_fits m_se_X11_X11_fits_X11_fits m_in_X11 m_co_X11_fits (by decide +kernel) ⟨Nat.le_of_ble_eq_true rfl, Nat.le_of_ble_eq_true rfl⟩ ⟨Nat.le_of_ble_eq_true rfl, Nat.le_of_ble_eq_true rfl⟩ rfl hl.1 rfl (Nat.le_of_ble_eq_true rfl) dX11_give_85 hK hI (fun r G1 H1 L1 hp hI => ?_)
              obtain ⟨v, rfl, hG, ⟨h_24, rfl⟩ | ⟨h_24, rfl⟩⟩ := hp
              · rw [hG] at hI
                refine W.eq (g2 := F0 mI 88 ls [.int 1]) rfl ?_
                refine lv_if_eq (tgt := 96) hx hb dX11_give_88 (by decide) (fun c_25 => absurd c_25 (by decide)) (fun _ => ?_)
                refine lv_iload hx hb dX11_give_91 (lv_at hl 0 rfl) ?_
                refine lv_if_ne (tgt := 102) hx hb dX11_give_93 (by decide) (fun c_26 => absurd c_26 (by decide)) (fun _ => ?_)
                refine lv_aload_n hx hb dX11_give_96 rfl (lv_at hl 2 rfl) ?_
                refine lv_iconst (v := 5) hx hb dX11_give_97 (by decide) ?_
                refine g_callV (own := RX11) (index := 56) (n := 1) hx hb hml hown hts (c_X11_refuse l E b0 _ mo ma _ hM 5 (vp_in_iff.mpr (by decide))) hM.1 rfl rfl m_ml_X11_56 m_im_X11_refuse m_se_X11_X11_refuse_X11_refuse m_in_X11 m_co_X11_refuse (by decide +kernel) ⟨Nat.le_of_ble_eq_true rfl, Nat.le_of_ble_eq_true rfl⟩ ⟨Nat.le_of_ble_eq_true rfl, Nat.le_of_ble_eq_true rfl⟩ rfl hl.1 rfl (Nat.le_of_ble_eq_true rfl) dX11_give_98 hK hI (fun r G1 H1 L1 hp hI => ?_)
                obtain ⟨v, rfl, ev, hM⟩ := hp
                subst ev
                refine W.eq (g2 := F0 mI 101 ls [.int (-10 - 5)]) rfl ?_
                have e9 : sp_give A s w f = ((-10 - 5), (rfs A 5)) := by
                  simp only [sp_give, rfi, rfj, h_1, h_3, h_5, q_8, q_10, h_11, h_24, reduceIte, Bool.false_eq_true, not_true_eq_false, not_false_eq_true]
                exact g_iret hx hb hr hlocks hI ⟨_, rfl, by rw [e9], by rw [e9]; exact hM⟩ dX11_give_101 (Nat.le_of_ble_eq_true rfl) (Nat.le_of_ble_eq_true rfl)
              · rw [hG] at hI
                refine W.eq (g2 := F0 mI 88 ls [.int 0]) rfl ?_
                refine lv_if_eq (tgt := 96) hx hb dX11_give_88 (by decide) (fun _ => ?_) (fun c_27 => absurd c_27 (by decide))
                refine lv_aload_n hx hb dX11_give_96 rfl (lv_at hl 2 rfl) ?_
                refine lv_iconst (v := 5) hx hb dX11_give_97 (by decide) ?_
                refine g_callV (own := RX11) (index := 56) (n := 1) hx hb hml hown hts (c_X11_refuse l E b0 _ mo ma _ hM 5 (vp_in_iff.mpr (by decide))) hM.1 rfl rfl m_ml_X11_56 m_im_X11_refuse m_se_X11_X11_refuse_X11_refuse m_in_X11 m_co_X11_refuse (by decide +kernel) ⟨Nat.le_of_ble_eq_true rfl, Nat.le_of_ble_eq_true rfl⟩ ⟨Nat.le_of_ble_eq_true rfl, Nat.le_of_ble_eq_true rfl⟩ rfl hl.1 rfl (Nat.le_of_ble_eq_true rfl) dX11_give_98 hK hI (fun r G1 H1 L1 hp hI => ?_)
                obtain ⟨v, rfl, ev, hM⟩ := hp
                subst ev
                refine W.eq (g2 := F0 mI 101 ls [.int (-10 - 5)]) rfl ?_
                have e9 : sp_give A s w f = ((-10 - 5), (rfs A 5)) := by
                  simp only [sp_give, rfi, rfj, h_1, h_3, h_5, q_8, q_10, h_11, h_24, reduceIte, Bool.false_eq_true, not_true_eq_false, not_false_eq_true]
                exact g_iret hx hb hr hlocks hI ⟨_, rfl, by rw [e9], by rw [e9]; exact hM⟩ dX11_give_101 (Nat.le_of_ble_eq_true rfl) (Nat.le_of_ble_eq_true rfl)
          · have q_28 := eqb_t c_9
            refine lv_aload_n hx hb dX11_give_53 rfl (lv_at hl 1 rfl) ?_
            refine lv_iload hx hb dX11_give_54 (lv_at hl 0 rfl) ?_
            refine lv_iconst (v := 3) hx hb dX11_give_56 (by decide) ?_
            refine lv_iconst (v := 4) hx hb dX11_give_57 (by decide) ?_
            refine g_callV (own := RX11) (index := 76) (n := 3) hx hb hml hown hts (c_X11_fits l E b0 _ mo ma _ hM (A 0 (ix f)) 3 4 (hw.sh (sh_in h_5))) hM.1 rfl rfl m_ml_X11_76 m_im_X11_fits m_se_X11_X11_fits_X11_fits m_in_X11 m_co_X11_fits (by decide +kernel) ⟨Nat.le_of_ble_eq_true rfl, Nat.le_of_ble_eq_true rfl⟩ ⟨Nat.le_of_ble_eq_true rfl, Nat.le_of_ble_eq_true rfl⟩ rfl hl.1 rfl (Nat.le_of_ble_eq_true rfl) dX11_give_58 hK hI (fun r G1 H1 L1 hp hI => ?_)
            obtain ⟨v, rfl, hG, ⟨h_29, rfl⟩ | ⟨h_29, rfl⟩⟩ := hp
            · rw [hG] at hI
              refine W.eq (g2 := F0 mI 61 ls [.int 1]) rfl ?_
              refine lv_goto (tgt := 72) hx hb dX11_give_61 (by decide) ?_
              refine lv_istore (lv' := [(5, .int 1), (4, .int (A 0 (ix f))), (0, .ref mo), (1, .int s), (2, .int w), (3, .int f)]) hx hb dX11_give_72 hl (by decide) rfl (fun ls hl => ?_)
              refine lv_aload_n hx hb dX11_give_74 rfl (lv_at hl 2 rfl) ?_
              refine lv_aload_n hx hb dX11_give_75 rfl (lv_at hl 2 rfl) ?_
              refine x_get (index := 7) hx hb hts hown hK hI hM 0 (by decide) m_fl_X11_7 rfl dX11_give_76 rfl ?_
              refine lv_iload_n hx hb dX11_give_79 rfl (lv_at hl 3 rfl) ?_
              refine x_ld hx hb hK hI hM 0 (by decide) (sh_in h_1) dX11_give_80 ?_
              refine lv_bipush (v := 6) hx hb dX11_give_81 (by decide) ?_
              refine lv_bipush (v := 7) hx hb dX11_give_83 (by decide) ?_
              refine g_callV (own := RX11) (index := 76) (n := 3) hx hb hml hown hts (c_X11_fits l E b0 _ mo ma _ hM (A 0 (ix s)) 6 7 (hw.sh (sh_in h_1))) hM.1 rfl rfl m_ml_X11_76 m_im_X11_fits m_se_X11_X11_fits_X11_fits m_in_X11 m_co_X11_fits (by decide +kernel) ⟨Nat.le_of_ble_eq_true rfl, Nat.le_of_ble_eq_true rfl⟩ ⟨Nat.le_of_ble_eq_true rfl, Nat.le_of_ble_eq_true rfl⟩ rfl hl.1 rfl (Nat.le_of_ble_eq_true rfl) dX11_give_85 hK hI (fun r G1 H1 L1 hp hI => ?_)
              obtain ⟨v, rfl, hG, ⟨h_30, rfl⟩ | ⟨h_30, rfl⟩⟩ := hp
              · rw [hG] at hI
                refine W.eq (g2 := F0 mI 88 ls [.int 1]) rfl ?_
                refine lv_if_eq (tgt := 96) hx hb dX11_give_88 (by decide) (fun c_31 => absurd c_31 (by decide)) (fun _ => ?_)
                refine lv_iload hx hb dX11_give_91 (lv_at hl 0 rfl) ?_
                refine lv_if_ne (tgt := 102) hx hb dX11_give_93 (by decide) (fun _ => ?_) (fun c_32 => absurd c_32 (by decide))
                refine lv_aload_n hx hb dX11_give_102 rfl (lv_at hl 2 rfl) ?_
                refine x_get (index := 7) hx hb hts hown hK hI hM 0 (by decide) m_fl_X11_7 rfl dX11_give_103 rfl ?_
                refine lv_iload_n hx hb dX11_give_106 rfl (lv_at hl 3 rfl) ?_
                refine x_ld hx hb hK hI hM 0 (by decide) (sh_in h_1) dX11_give_107 ?_
                refine lv_istore (lv' := [(6, .int (A 0 (ix s))), (5, .int 1), (4, .int (A 0 (ix f))), (0, .ref mo), (1, .int s), (2, .int w), (3, .int f)]) hx hb dX11_give_108 hl (by decide) rfl (fun ls hl => ?_)
                refine lv_iload hx hb dX11_give_110 (lv_at hl 0 rfl) ?_
                refine lv_if_ne (tgt := 121) hx hb dX11_give_112 (by decide) (fun c_33 => ?_) (fun c_33 => ?_)
                · have q_34 := eqb_f c_33
                  refine lv_iload_n hx hb dX11_give_121 rfl (lv_at hl 5 rfl) ?_
                  refine lv_if_ne (tgt := 137) hx hb dX11_give_122 (by decide) (fun _ => ?_) (fun c_35 => by first | exact absurd c_7 c_35 | exact absurd c_35 c_7 | (simp_all; done))
                  refine lv_iload_n hx hb dX11_give_137 rfl (lv_at hl 5 rfl) ?_
                  refine lv_iconst (v := 1) hx hb dX11_give_138 (by decide) ?_
                  refine lv_icmp_ne (tgt := 154) hx hb dX11_give_139 (by decide) (fun c_36 => by first | exact absurd c_9 c_36 | exact absurd c_36 c_9 | (simp_all; done)) (fun _ => ?_)
                  refine lv_aload_n hx hb dX11_give_142 rfl (lv_at hl 3 rfl) ?_
                  refine x_get (index := 41) hx hb hts hown hK hI hM 11 (by decide) m_fl_X11_41 rfl dX11_give_143 rfl ?_
                  refine lv_iload hx hb dX11_give_146 (lv_at hl 0 rfl) ?_
                  refine lv_iload hx hb dX11_give_148 (lv_at hl 2 rfl) ?_
                  refine x_st hx hb hK hI hM 11 (by decide) (hw.sh (sh_in h_1)) dX11_give_150 (fun G1 H1 L1 hM hI => ?_)
                  refine lv_goto (tgt := 163) hx hb dX11_give_151 (by decide) ?_
                  refine lv_iload hx hb dX11_give_163 (lv_at hl 2 rfl) ?_
                  refine lv_if_ne (tgt := 172) hx hb dX11_give_165 (by decide) (fun c_37 => ?_) (fun c_37 => ?_)
                  · have q_38 := eqb_f c_37
                    refine lv_iconst (v := 1) hx hb dX11_give_172 (by decide) ?_
                    have e9 : sp_give A s w f = (1, (u2 A 11 (ix (A 0 (ix s))) (A 0 (ix f)))) := by
                      simp only [sp_give, rfi, rfj, h_1, h_3, h_5, q_8, q_28, h_29, h_30, q_34, q_38, reduceIte, Bool.false_eq_true, not_true_eq_false, not_false_eq_true]
                    exact g_iret hx hb hr hlocks hI ⟨_, rfl, by rw [e9], by rw [e9]; exact hM⟩ dX11_give_173 (Nat.le_of_ble_eq_true rfl) (Nat.le_of_ble_eq_true rfl)
                  · have q_39 := eqb_t c_37
                    refine lv_iconst (v := 0) hx hb dX11_give_168 (by decide) ?_
                    refine lv_goto (tgt := 173) hx hb dX11_give_169 (by decide) ?_
                    have e9 : sp_give A s w f = (0, (u2 A 11 (ix (A 0 (ix s))) (A 0 (ix f)))) := by
                      simp only [sp_give, rfi, rfj, h_1, h_3, h_5, q_8, q_28, h_29, h_30, q_34, q_39, reduceIte, Bool.false_eq_true, not_true_eq_false, not_false_eq_true]
                    exact g_iret hx hb hr hlocks hI ⟨_, rfl, by rw [e9], by rw [e9]; exact hM⟩ dX11_give_173 (Nat.le_of_ble_eq_true rfl) (Nat.le_of_ble_eq_true rfl)
                · have q_40 := eqb_t c_33
                  refine lv_aload_n hx hb dX11_give_115 rfl (lv_at hl 3 rfl) ?_
                  refine lv_iconst (v := 1) hx hb dX11_give_116 (by decide) ?_
                  refine g_callV (own := RX11) (index := 56) (n := 1) hx hb hml hown hts (c_X11_refuse l E b0 _ mo ma _ hM 1 (vp_in_iff.mpr (by decide))) hM.1 rfl rfl m_ml_X11_56 m_im_X11_refuse m_se_X11_X11_refuse_X11_refuse m_in_X11 m_co_X11_refuse (by decide +kernel) ⟨Nat.le_of_ble_eq_true rfl, Nat.le_of_ble_eq_true rfl⟩ ⟨Nat.le_of_ble_eq_true rfl, Nat.le_of_ble_eq_true rfl⟩ rfl hl.1 rfl (Nat.le_of_ble_eq_true rfl) dX11_give_117 hK hI (fun r G1 H1 L1 hp hI => ?_)
                  obtain ⟨v, rfl, ev, hM⟩ := hp
                  subst ev
                  refine W.eq (g2 := F0 mI 120 ls [.int (-10 - 1)]) rfl ?_
                  have e9 : sp_give A s w f = ((-10 - 1), (rfs A 1)) := by
                    simp only [sp_give, rfi, rfj, h_1, h_3, h_5, q_8, q_28, h_29, h_30, q_40, reduceIte, Bool.false_eq_true, not_true_eq_false, not_false_eq_true]
                  exact g_iret hx hb hr hlocks hI ⟨_, rfl, by rw [e9], by rw [e9]; exact hM⟩ dX11_give_120 (Nat.le_of_ble_eq_true rfl) (Nat.le_of_ble_eq_true rfl)
              · rw [hG] at hI
                refine W.eq (g2 := F0 mI 88 ls [.int 0]) rfl ?_
                refine lv_if_eq (tgt := 96) hx hb dX11_give_88 (by decide) (fun _ => ?_) (fun c_41 => absurd c_41 (by decide))
                refine lv_aload_n hx hb dX11_give_96 rfl (lv_at hl 2 rfl) ?_
                refine lv_iconst (v := 5) hx hb dX11_give_97 (by decide) ?_
                refine g_callV (own := RX11) (index := 56) (n := 1) hx hb hml hown hts (c_X11_refuse l E b0 _ mo ma _ hM 5 (vp_in_iff.mpr (by decide))) hM.1 rfl rfl m_ml_X11_56 m_im_X11_refuse m_se_X11_X11_refuse_X11_refuse m_in_X11 m_co_X11_refuse (by decide +kernel) ⟨Nat.le_of_ble_eq_true rfl, Nat.le_of_ble_eq_true rfl⟩ ⟨Nat.le_of_ble_eq_true rfl, Nat.le_of_ble_eq_true rfl⟩ rfl hl.1 rfl (Nat.le_of_ble_eq_true rfl) dX11_give_98 hK hI (fun r G1 H1 L1 hp hI => ?_)
                obtain ⟨v, rfl, ev, hM⟩ := hp
                subst ev
                refine W.eq (g2 := F0 mI 101 ls [.int (-10 - 5)]) rfl ?_
                have e9 : sp_give A s w f = ((-10 - 5), (rfs A 5)) := by
                  simp only [sp_give, rfi, rfj, h_1, h_3, h_5, q_8, q_28, h_29, h_30, reduceIte, Bool.false_eq_true, not_true_eq_false, not_false_eq_true]
                exact g_iret hx hb hr hlocks hI ⟨_, rfl, by rw [e9], by rw [e9]; exact hM⟩ dX11_give_101 (Nat.le_of_ble_eq_true rfl) (Nat.le_of_ble_eq_true rfl)
            · rw [hG] at hI
              refine W.eq (g2 := F0 mI 61 ls [.int 0]) rfl ?_
              refine lv_goto (tgt := 72) hx hb dX11_give_61 (by decide) ?_
              refine lv_istore (lv' := [(5, .int 0), (4, .int (A 0 (ix f))), (0, .ref mo), (1, .int s), (2, .int w), (3, .int f)]) hx hb dX11_give_72 hl (by decide) rfl (fun ls hl => ?_)
              refine lv_aload_n hx hb dX11_give_74 rfl (lv_at hl 2 rfl) ?_
              refine lv_aload_n hx hb dX11_give_75 rfl (lv_at hl 2 rfl) ?_
              refine x_get (index := 7) hx hb hts hown hK hI hM 0 (by decide) m_fl_X11_7 rfl dX11_give_76 rfl ?_
              refine lv_iload_n hx hb dX11_give_79 rfl (lv_at hl 3 rfl) ?_
              refine x_ld hx hb hK hI hM 0 (by decide) (sh_in h_1) dX11_give_80 ?_
              refine lv_bipush (v := 6) hx hb dX11_give_81 (by decide) ?_
              refine lv_bipush (v := 7) hx hb dX11_give_83 (by decide) ?_
              refine g_callV (own := RX11) (index := 76) (n := 3) hx hb hml hown hts (c_X11_fits l E b0 _ mo ma _ hM (A 0 (ix s)) 6 7 (hw.sh (sh_in h_1))) hM.1 rfl rfl m_ml_X11_76 m_im_X11_fits m_se_X11_X11_fits_X11_fits m_in_X11 m_co_X11_fits (by decide +kernel) ⟨Nat.le_of_ble_eq_true rfl, Nat.le_of_ble_eq_true rfl⟩ ⟨Nat.le_of_ble_eq_true rfl, Nat.le_of_ble_eq_true rfl⟩ rfl hl.1 rfl (Nat.le_of_ble_eq_true rfl) dX11_give_85 hK hI (fun r G1 H1 L1 hp hI => ?_)
              obtain ⟨v, rfl, hG, ⟨h_42, rfl⟩ | ⟨h_42, rfl⟩⟩ := hp
              · rw [hG] at hI
                refine W.eq (g2 := F0 mI 88 ls [.int 1]) rfl ?_
                refine lv_if_eq (tgt := 96) hx hb dX11_give_88 (by decide) (fun c_43 => absurd c_43 (by decide)) (fun _ => ?_)
                refine lv_iload hx hb dX11_give_91 (lv_at hl 0 rfl) ?_
                refine lv_if_ne (tgt := 102) hx hb dX11_give_93 (by decide) (fun c_44 => absurd c_44 (by decide)) (fun _ => ?_)
                refine lv_aload_n hx hb dX11_give_96 rfl (lv_at hl 2 rfl) ?_
                refine lv_iconst (v := 5) hx hb dX11_give_97 (by decide) ?_
                refine g_callV (own := RX11) (index := 56) (n := 1) hx hb hml hown hts (c_X11_refuse l E b0 _ mo ma _ hM 5 (vp_in_iff.mpr (by decide))) hM.1 rfl rfl m_ml_X11_56 m_im_X11_refuse m_se_X11_X11_refuse_X11_refuse m_in_X11 m_co_X11_refuse (by decide +kernel) ⟨Nat.le_of_ble_eq_true rfl, Nat.le_of_ble_eq_true rfl⟩ ⟨Nat.le_of_ble_eq_true rfl, Nat.le_of_ble_eq_true rfl⟩ rfl hl.1 rfl (Nat.le_of_ble_eq_true rfl) dX11_give_98 hK hI (fun r G1 H1 L1 hp hI => ?_)
                obtain ⟨v, rfl, ev, hM⟩ := hp
                subst ev
                refine W.eq (g2 := F0 mI 101 ls [.int (-10 - 5)]) rfl ?_
                have e9 : sp_give A s w f = ((-10 - 5), (rfs A 5)) := by
                  simp only [sp_give, rfi, rfj, h_1, h_3, h_5, q_8, q_28, h_29, h_42, reduceIte, Bool.false_eq_true, not_true_eq_false, not_false_eq_true]
                exact g_iret hx hb hr hlocks hI ⟨_, rfl, by rw [e9], by rw [e9]; exact hM⟩ dX11_give_101 (Nat.le_of_ble_eq_true rfl) (Nat.le_of_ble_eq_true rfl)
              · rw [hG] at hI
                refine W.eq (g2 := F0 mI 88 ls [.int 0]) rfl ?_
                refine lv_if_eq (tgt := 96) hx hb dX11_give_88 (by decide) (fun _ => ?_) (fun c_45 => absurd c_45 (by decide))
                refine lv_aload_n hx hb dX11_give_96 rfl (lv_at hl 2 rfl) ?_
                refine lv_iconst (v := 5) hx hb dX11_give_97 (by decide) ?_
                refine g_callV (own := RX11) (index := 56) (n := 1) hx hb hml hown hts (c_X11_refuse l E b0 _ mo ma _ hM 5 (vp_in_iff.mpr (by decide))) hM.1 rfl rfl m_ml_X11_56 m_im_X11_refuse m_se_X11_X11_refuse_X11_refuse m_in_X11 m_co_X11_refuse (by decide +kernel) ⟨Nat.le_of_ble_eq_true rfl, Nat.le_of_ble_eq_true rfl⟩ ⟨Nat.le_of_ble_eq_true rfl, Nat.le_of_ble_eq_true rfl⟩ rfl hl.1 rfl (Nat.le_of_ble_eq_true rfl) dX11_give_98 hK hI (fun r G1 H1 L1 hp hI => ?_)
                obtain ⟨v, rfl, ev, hM⟩ := hp
                subst ev
                refine W.eq (g2 := F0 mI 101 ls [.int (-10 - 5)]) rfl ?_
                have e9 : sp_give A s w f = ((-10 - 5), (rfs A 5)) := by
                  simp only [sp_give, rfi, rfj, h_1, h_3, h_5, q_8, q_28, h_29, h_42, reduceIte, Bool.false_eq_true, not_true_eq_false, not_false_eq_true]
                exact g_iret hx hb hr hlocks hI ⟨_, rfl, by rw [e9], by rw [e9]; exact hM⟩ dX11_give_101 (Nat.le_of_ble_eq_true rfl) (Nat.le_of_ble_eq_true rfl)
        · have q_46 := eqb_t c_7
          refine lv_aload_n hx hb dX11_give_37 rfl (lv_at hl 1 rfl) ?_
          refine lv_iload hx hb dX11_give_38 (lv_at hl 0 rfl) ?_
          refine lv_iconst (v := 2) hx hb dX11_give_40 (by decide) ?_
          refine lv_iconst (v := 2) hx hb dX11_give_41 (by decide) ?_
          refine g_callV (own := RX11) (index := 76) (n := 3) hx hb hml hown hts (c_X11_fits l E b0 _ mo ma _ hM (A 0 (ix f)) 2 2 (hw.sh (sh_in h_5))) hM.1 rfl rfl m_ml_X11_76 m_im_X11_fits m_se_X11_X11_fits_X11_fits m_in_X11 m_co_X11_fits (by decide +kernel) ⟨Nat.le_of_ble_eq_true rfl, Nat.le_of_ble_eq_true rfl⟩ ⟨Nat.le_of_ble_eq_true rfl, Nat.le_of_ble_eq_true rfl⟩ rfl hl.1 rfl (Nat.le_of_ble_eq_true rfl) dX11_give_42 hK hI (fun r G1 H1 L1 hp hI => ?_)
          obtain ⟨v, rfl, hG, ⟨h_47, rfl⟩ | ⟨h_47, rfl⟩⟩ := hp
          · rw [hG] at hI
            refine W.eq (g2 := F0 mI 45 ls [.int 1]) rfl ?_
            refine lv_goto (tgt := 72) hx hb dX11_give_45 (by decide) ?_
            refine lv_istore (lv' := [(5, .int 1), (4, .int (A 0 (ix f))), (0, .ref mo), (1, .int s), (2, .int w), (3, .int f)]) hx hb dX11_give_72 hl (by decide) rfl (fun ls hl => ?_)
            refine lv_aload_n hx hb dX11_give_74 rfl (lv_at hl 2 rfl) ?_
            refine lv_aload_n hx hb dX11_give_75 rfl (lv_at hl 2 rfl) ?_
            refine x_get (index := 7) hx hb hts hown hK hI hM 0 (by decide) m_fl_X11_7 rfl dX11_give_76 rfl ?_
            refine lv_iload_n hx hb dX11_give_79 rfl (lv_at hl 3 rfl) ?_
            refine x_ld hx hb hK hI hM 0 (by decide) (sh_in h_1) dX11_give_80 ?_
            refine lv_bipush (v := 6) hx hb dX11_give_81 (by decide) ?_
            refine lv_bipush (v := 7) hx hb dX11_give_83 (by decide) ?_
            refine g_callV (own := RX11) (index := 76) (n := 3) hx hb hml hown hts (c_X11_fits l E b0 _ mo ma _ hM (A 0 (ix s)) 6 7 (hw.sh (sh_in h_1))) hM.1 rfl rfl m_ml_X11_76 m_im_X11_fits m_se_X11_X11_fits_X11_fits m_in_X11 m_co_X11_fits (by decide +kernel) ⟨Nat.le_of_ble_eq_true rfl, Nat.le_of_ble_eq_true rfl⟩ ⟨Nat.le_of_ble_eq_true rfl, Nat.le_of_ble_eq_true rfl⟩ rfl hl.1 rfl (Nat.le_of_ble_eq_true rfl) dX11_give_85 hK hI (fun r G1 H1 L1 hp hI => ?_)
            obtain ⟨v, rfl, hG, ⟨h_48, rfl⟩ | ⟨h_48, rfl⟩⟩ := hp
            · rw [hG] at hI
              refine W.eq (g2 := F0 mI 88 ls [.int 1]) rfl ?_
              refine lv_if_eq (tgt := 96) hx hb dX11_give_88 (by decide) (fun c_49 => absurd c_49 (by decide)) (fun _ => ?_)
              refine lv_iload hx hb dX11_give_91 (lv_at hl 0 rfl) ?_
              refine lv_if_ne (tgt := 102) hx hb dX11_give_93 (by decide) (fun _ => ?_) (fun c_50 => absurd c_50 (by decide))
              refine lv_aload_n hx hb dX11_give_102 rfl (lv_at hl 2 rfl) ?_
              refine x_get (index := 7) hx hb hts hown hK hI hM 0 (by decide) m_fl_X11_7 rfl dX11_give_103 rfl ?_
              refine lv_iload_n hx hb dX11_give_106 rfl (lv_at hl 3 rfl) ?_
              refine x_ld hx hb hK hI hM 0 (by decide) (sh_in h_1) dX11_give_107 ?_
              refine lv_istore (lv' := [(6, .int (A 0 (ix s))), (5, .int 1), (4, .int (A 0 (ix f))), (0, .ref mo), (1, .int s), (2, .int w), (3, .int f)]) hx hb dX11_give_108 hl (by decide) rfl (fun ls hl => ?_)
              refine lv_iload hx hb dX11_give_110 (lv_at hl 0 rfl) ?_
              refine lv_if_ne (tgt := 121) hx hb dX11_give_112 (by decide) (fun c_51 => ?_) (fun c_51 => ?_)
              · have q_52 := eqb_f c_51
                refine lv_iload_n hx hb dX11_give_121 rfl (lv_at hl 5 rfl) ?_
                refine lv_if_ne (tgt := 137) hx hb dX11_give_122 (by decide) (fun c_53 => by first | exact absurd c_7 c_53 | exact absurd c_53 c_7 | (simp_all; done)) (fun _ => ?_)
                refine lv_aload_n hx hb dX11_give_125 rfl (lv_at hl 3 rfl) ?_
                refine x_get (index := 38) hx hb hts hown hK hI hM 10 (by decide) m_fl_X11_38 rfl dX11_give_126 rfl ?_
                refine lv_iload hx hb dX11_give_129 (lv_at hl 0 rfl) ?_
                refine lv_iload hx hb dX11_give_131 (lv_at hl 2 rfl) ?_
                refine x_st hx hb hK hI hM 10 (by decide) (hw.sh (sh_in h_1)) dX11_give_133 (fun G1 H1 L1 hM hI => ?_)
                refine lv_goto (tgt := 163) hx hb dX11_give_134 (by decide) ?_
                refine lv_iload hx hb dX11_give_163 (lv_at hl 2 rfl) ?_
                refine lv_if_ne (tgt := 172) hx hb dX11_give_165 (by decide) (fun c_54 => ?_) (fun c_54 => ?_)
                · have q_55 := eqb_f c_54
                  refine lv_iconst (v := 1) hx hb dX11_give_172 (by decide) ?_
                  have e9 : sp_give A s w f = (1, (u2 A 10 (ix (A 0 (ix s))) (A 0 (ix f)))) := by
                    simp only [sp_give, rfi, rfj, h_1, h_3, h_5, q_46, h_47, h_48, q_52, q_55, reduceIte, Bool.false_eq_true, not_true_eq_false, not_false_eq_true]
                  exact g_iret hx hb hr hlocks hI ⟨_, rfl, by rw [e9], by rw [e9]; exact hM⟩ dX11_give_173 (Nat.le_of_ble_eq_true rfl) (Nat.le_of_ble_eq_true rfl)
                · have q_56 := eqb_t c_54
                  refine lv_iconst (v := 0) hx hb dX11_give_168 (by decide) ?_
                  refine lv_goto (tgt := 173) hx hb dX11_give_169 (by decide) ?_
                  have e9 : sp_give A s w f = (0, (u2 A 10 (ix (A 0 (ix s))) (A 0 (ix f)))) := by
                    simp only [sp_give, rfi, rfj, h_1, h_3, h_5, q_46, h_47, h_48, q_52, q_56, reduceIte, Bool.false_eq_true, not_true_eq_false, not_false_eq_true]
                  exact g_iret hx hb hr hlocks hI ⟨_, rfl, by rw [e9], by rw [e9]; exact hM⟩ dX11_give_173 (Nat.le_of_ble_eq_true rfl) (Nat.le_of_ble_eq_true rfl)
              · have q_57 := eqb_t c_51
                refine lv_aload_n hx hb dX11_give_115 rfl (lv_at hl 3 rfl) ?_
                refine lv_iconst (v := 1) hx hb dX11_give_116 (by decide) ?_
                refine g_callV (own := RX11) (index := 56) (n := 1) hx hb hml hown hts (c_X11_refuse l E b0 _ mo ma _ hM 1 (vp_in_iff.mpr (by decide))) hM.1 rfl rfl m_ml_X11_56 m_im_X11_refuse m_se_X11_X11_refuse_X11_refuse m_in_X11 m_co_X11_refuse (by decide +kernel) ⟨Nat.le_of_ble_eq_true rfl, Nat.le_of_ble_eq_true rfl⟩ ⟨Nat.le_of_ble_eq_true rfl, Nat.le_of_ble_eq_true rfl⟩ rfl hl.1 rfl (Nat.le_of_ble_eq_true rfl) dX11_give_117 hK hI (fun r G1 H1 L1 hp hI => ?_)
                obtain ⟨v, rfl, ev, hM⟩ := hp
                subst ev
                refine W.eq (g2 := F0 mI 120 ls [.int (-10 - 1)]) rfl ?_
                have e9 : sp_give A s w f = ((-10 - 1), (rfs A 1)) := by
                  simp only [sp_give, rfi, rfj, h_1, h_3, h_5, q_46, h_47, h_48, q_57, reduceIte, Bool.false_eq_true, not_true_eq_false, not_false_eq_true]
                exact g_iret hx hb hr hlocks hI ⟨_, rfl, by rw [e9], by rw [e9]; exact hM⟩ dX11_give_120 (Nat.le_of_ble_eq_true rfl) (Nat.le_of_ble_eq_true rfl)
            · rw [hG] at hI
              refine W.eq (g2 := F0 mI 88 ls [.int 0]) rfl ?_
              refine lv_if_eq (tgt := 96) hx hb dX11_give_88 (by decide) (fun _ => ?_) (fun c_58 => absurd c_58 (by decide))
              refine lv_aload_n hx hb dX11_give_96 rfl (lv_at hl 2 rfl) ?_
              refine lv_iconst (v := 5) hx hb dX11_give_97 (by decide) ?_
              refine g_callV (own := RX11) (index := 56) (n := 1) hx hb hml hown hts (c_X11_refuse l E b0 _ mo ma _ hM 5 (vp_in_iff.mpr (by decide))) hM.1 rfl rfl m_ml_X11_56 m_im_X11_refuse m_se_X11_X11_refuse_X11_refuse m_in_X11 m_co_X11_refuse (by decide +kernel) ⟨Nat.le_of_ble_eq_true rfl, Nat.le_of_ble_eq_true rfl⟩ ⟨Nat.le_of_ble_eq_true rfl, Nat.le_of_ble_eq_true rfl⟩ rfl hl.1 rfl (Nat.le_of_ble_eq_true rfl) dX11_give_98 hK hI (fun r G1 H1 L1 hp hI => ?_)
              obtain ⟨v, rfl, ev, hM⟩ := hp
              subst ev
              refine W.eq (g2 := F0 mI 101 ls [.int (-10 - 5)]) rfl ?_
              have e9 : sp_give A s w f = ((-10 - 5), (rfs A 5)) := by
                simp only [sp_give, rfi, rfj, h_1, h_3, h_5, q_46, h_47, h_48, reduceIte, Bool.false_eq_true, not_true_eq_false, not_false_eq_true]
              exact g_iret hx hb hr hlocks hI ⟨_, rfl, by rw [e9], by rw [e9]; exact hM⟩ dX11_give_101 (Nat.le_of_ble_eq_true rfl) (Nat.le_of_ble_eq_true rfl)
          · rw [hG] at hI
            refine W.eq (g2 := F0 mI 45 ls [.int 0]) rfl ?_
            refine lv_goto (tgt := 72) hx hb dX11_give_45 (by decide) ?_
            refine lv_istore (lv' := [(5, .int 0), (4, .int (A 0 (ix f))), (0, .ref mo), (1, .int s), (2, .int w), (3, .int f)]) hx hb dX11_give_72 hl (by decide) rfl (fun ls hl => ?_)
            refine lv_aload_n hx hb dX11_give_74 rfl (lv_at hl 2 rfl) ?_
            refine lv_aload_n hx hb dX11_give_75 rfl (lv_at hl 2 rfl) ?_
            refine x_get (index := 7) hx hb hts hown hK hI hM 0 (by decide) m_fl_X11_7 rfl dX11_give_76 rfl ?_
            refine lv_iload_n hx hb dX11_give_79 rfl (lv_at hl 3 rfl) ?_
            refine x_ld hx hb hK hI hM 0 (by decide) (sh_in h_1) dX11_give_80 ?_
            refine lv_bipush (v := 6) hx hb dX11_give_81 (by decide) ?_
            refine lv_bipush (v := 7) hx hb dX11_give_83 (by decide) ?_
            refine g_callV (own := RX11) (index := 76) (n := 3) hx hb hml hown hts (c_X11_fits l E b0 _ mo ma _ hM (A 0 (ix s)) 6 7 (hw.sh (sh_in h_1))) hM.1 rfl rfl m_ml_X11_76 m_im_X11_fits m_se_X11_X11_fits_X11_fits m_in_X11 m_co_X11_fits (by decide +kernel) ⟨Nat.le_of_ble_eq_true rfl, Nat.le_of_ble_eq_true rfl⟩ ⟨Nat.le_of_ble_eq_true rfl, Nat.le_of_ble_eq_true rfl⟩ rfl hl.1 rfl (Nat.le_of_ble_eq_true rfl) dX11_give_85 hK hI (fun r G1 H1 L1 hp hI => ?_)
            obtain ⟨v, rfl, hG, ⟨h_59, rfl⟩ | ⟨h_59, rfl⟩⟩ := hp
            · rw [hG] at hI
              refine W.eq (g2 := F0 mI 88 ls [.int 1]) rfl ?_
              refine lv_if_eq (tgt := 96) hx hb dX11_give_88 (by decide) (fun c_60 => absurd c_60 (by decide)) (fun _ => ?_)
              refine lv_iload hx hb dX11_give_91 (lv_at hl 0 rfl) ?_
              refine lv_if_ne (tgt := 102) hx hb dX11_give_93 (by decide) (fun c_61 => absurd c_61 (by decide)) (fun _ => ?_)
              refine lv_aload_n hx hb dX11_give_96 rfl (lv_at hl 2 rfl) ?_
              refine lv_iconst (v := 5) hx hb dX11_give_97 (by decide) ?_
              refine g_callV (own := RX11) (index := 56) (n := 1) hx hb hml hown hts (c_X11_refuse l E b0 _ mo ma _ hM 5 (vp_in_iff.mpr (by decide))) hM.1 rfl rfl m_ml_X11_56 m_im_X11_refuse m_se_X11_X11_refuse_X11_refuse m_in_X11 m_co_X11_refuse (by decide +kernel) ⟨Nat.le_of_ble_eq_true rfl, Nat.le_of_ble_eq_true rfl⟩ ⟨Nat.le_of_ble_eq_true rfl, Nat.le_of_ble_eq_true rfl⟩ rfl hl.1 rfl (Nat.le_of_ble_eq_true rfl) dX11_give_98 hK hI (fun r G1 H1 L1 hp hI => ?_)
              obtain ⟨v, rfl, ev, hM⟩ := hp
              subst ev
              refine W.eq (g2 := F0 mI 101 ls [.int (-10 - 5)]) rfl ?_
              have e9 : sp_give A s w f = ((-10 - 5), (rfs A 5)) := by
                simp only [sp_give, rfi, rfj, h_1, h_3, h_5, q_46, h_47, h_59, reduceIte, Bool.false_eq_true, not_true_eq_false, not_false_eq_true]
              exact g_iret hx hb hr hlocks hI ⟨_, rfl, by rw [e9], by rw [e9]; exact hM⟩ dX11_give_101 (Nat.le_of_ble_eq_true rfl) (Nat.le_of_ble_eq_true rfl)
            · rw [hG] at hI
              refine W.eq (g2 := F0 mI 88 ls [.int 0]) rfl ?_
              refine lv_if_eq (tgt := 96) hx hb dX11_give_88 (by decide) (fun _ => ?_) (fun c_62 => absurd c_62 (by decide))
              refine lv_aload_n hx hb dX11_give_96 rfl (lv_at hl 2 rfl) ?_
              refine lv_iconst (v := 5) hx hb dX11_give_97 (by decide) ?_
              refine g_callV (own := RX11) (index := 56) (n := 1) hx hb hml hown hts (c_X11_refuse l E b0 _ mo ma _ hM 5 (vp_in_iff.mpr (by decide))) hM.1 rfl rfl m_ml_X11_56 m_im_X11_refuse m_se_X11_X11_refuse_X11_refuse m_in_X11 m_co_X11_refuse (by decide +kernel) ⟨Nat.le_of_ble_eq_true rfl, Nat.le_of_ble_eq_true rfl⟩ ⟨Nat.le_of_ble_eq_true rfl, Nat.le_of_ble_eq_true rfl⟩ rfl hl.1 rfl (Nat.le_of_ble_eq_true rfl) dX11_give_98 hK hI (fun r G1 H1 L1 hp hI => ?_)
              obtain ⟨v, rfl, ev, hM⟩ := hp
              subst ev
              refine W.eq (g2 := F0 mI 101 ls [.int (-10 - 5)]) rfl ?_
              have e9 : sp_give A s w f = ((-10 - 5), (rfs A 5)) := by
                simp only [sp_give, rfi, rfj, h_1, h_3, h_5, q_46, h_47, h_59, reduceIte, Bool.false_eq_true, not_true_eq_false, not_false_eq_true]
              exact g_iret hx hb hr hlocks hI ⟨_, rfl, by rw [e9], by rw [e9]; exact hM⟩ dX11_give_101 (Nat.le_of_ble_eq_true rfl) (Nat.le_of_ble_eq_true rfl)
      · rw [hG] at hI
        refine W.eq (g2 := F0 mI 20 ls [.int 0]) rfl ?_
        refine lv_if_ne (tgt := 25) hx hb dX11_give_20 (by decide) (fun c_63 => absurd c_63 (by decide)) (fun _ => ?_)
        refine lv_iconst (v := -1) hx hb dX11_give_23 (by decide) ?_
        have e9 : sp_give A s w f = ((-1), A) := by
          simp only [sp_give, rfi, rfj, h_1, h_3, h_5, reduceIte, Bool.false_eq_true, not_true_eq_false, not_false_eq_true]
        exact g_iret hx hb hr hlocks hI ⟨_, rfl, by rw [e9], by rw [e9]; exact hM⟩ dX11_give_24 (Nat.le_of_ble_eq_true rfl) (Nat.le_of_ble_eq_true rfl)
    · rw [hG] at hI
      refine W.eq (g2 := F0 mI 13 ls [.int 0]) rfl ?_
      refine lv_if_eq (tgt := 23) hx hb dX11_give_13 (by decide) (fun _ => ?_) (fun c_64 => absurd c_64 (by decide))
      refine lv_iconst (v := -1) hx hb dX11_give_23 (by decide) ?_
      have e9 : sp_give A s w f = ((-1), A) := by
        simp only [sp_give, rfi, rfj, h_1, h_3, reduceIte, Bool.false_eq_true, not_true_eq_false, not_false_eq_true]
      exact g_iret hx hb hr hlocks hI ⟨_, rfl, by rw [e9], by rw [e9]; exact hM⟩ dX11_give_24 (Nat.le_of_ble_eq_true rfl) (Nat.le_of_ble_eq_true rfl)
  · rw [hG] at hI
    refine W.eq (g2 := F0 mI 4 ls [.int 0]) rfl ?_
    refine lv_if_eq (tgt := 23) hx hb dX11_give_4 (by decide) (fun _ => ?_) (fun c_65 => absurd c_65 (by decide))
    refine lv_iconst (v := -1) hx hb dX11_give_23 (by decide) ?_
    have e9 : sp_give A s w f = ((-1), A) := by
      simp only [sp_give, rfi, rfj, h_1, reduceIte, Bool.false_eq_true, not_true_eq_false, not_false_eq_true]
    exact g_iret hx hb hr hlocks hI ⟨_, rfl, by rw [e9], by rw [e9]; exact hM⟩ dX11_give_24 (Nat.le_of_ble_eq_true rfl) (Nat.le_of_ble_eq_true rfl)
set_option maxHeartbeats 4000000 in
set_option maxRecDepth 100000 in
theorem c_X11_strip (l : Launch) (E : gE) (b0 : Nat) (G : gG) (mo : Nat) (ma : Nat → Nat) (A : gA) (hM : gMod E mo ma A G) (nn : Nat) (hw : wfb A nn) (s : Int32) : gM l yX11_strip cX11_strip 4 (some .int) 5 0 0 E b0 G [.ref mo, .int s] (pI (fun v9 G1 => v9 = (sp_strip A s).1 ∧ gMod E mo ma (sp_strip A s).2 G1)) := by
  refine gM.of (by decide +kernel) (Nat.le_of_ble_eq_true rfl) ?_
  intro pP eP sP mI bP meth cP ls hx hb hr hml hown hlocks hnm hts hK hI hl
  have hl : lv_has ls 4 [(0, .ref mo), (1, .int s)] := hl
  have hown : sP.vm.findClass RX11 = some mI.cls := hown
  refine lv_iload_n hx hb dX11_strip_0 rfl (lv_at hl 1 rfl) ?_
  refine g_callS (own := RX11) (index := 64) (n := 1) hx hb hml hown hts (c_X11_isShelf l E b0 _ s) m_ml_X11_64 m_st_X11_isShelf m_in_X11 m_co_X11_isShelf (by decide +kernel) ⟨Nat.le_of_ble_eq_true rfl, Nat.le_of_ble_eq_true rfl⟩ ⟨Nat.le_of_ble_eq_true rfl, Nat.le_of_ble_eq_true rfl⟩ rfl hl.1 rfl (Nat.le_of_ble_eq_true rfl) dX11_strip_1 hK hI (fun r G1 H1 L1 hp hI => ?_)
  obtain ⟨v, rfl, hG, ⟨h_1, rfl⟩ | ⟨h_1, rfl⟩⟩ := hp
  · rw [hG] at hI
    refine W.eq (g2 := F0 mI 4 ls [.int 1]) rfl ?_
    refine lv_if_ne (tgt := 9) hx hb dX11_strip_4 (by decide) (fun _ => ?_) (fun c_2 => absurd c_2 (by decide))
    refine lv_aload_n hx hb dX11_strip_9 rfl (lv_at hl 0 rfl) ?_
    refine lv_iload_n hx hb dX11_strip_10 rfl (lv_at hl 1 rfl) ?_
    refine g_callV (own := RX11) (index := 82) (n := 1) hx hb hml hown hts (c_X11_wrongRow l E b0 _ mo ma _ hM nn hw s h_1) hM.1 rfl rfl m_ml_X11_82 m_im_X11_wrongRow m_se_X11_X11_wrongRow_X11_wrongRow m_in_X11 m_co_X11_wrongRow (by decide +kernel) ⟨Nat.le_of_ble_eq_true rfl, Nat.le_of_ble_eq_true rfl⟩ ⟨Nat.le_of_ble_eq_true rfl, Nat.le_of_ble_eq_true rfl⟩ rfl hl.1 rfl (Nat.le_of_ble_eq_true rfl) dX11_strip_11 hK hI (fun r G1 H1 L1 hp hI => ?_)
    obtain ⟨v, rfl, ev, hG⟩ := hp
    subst ev
    rw [hG] at hI
    refine W.eq (g2 := F0 mI 14 ls [.int (wRw A s)]) rfl ?_
    refine lv_istore_n (lv' := [(2, .int (wRw A s)), (0, .ref mo), (1, .int s)]) hx hb dX11_strip_14 rfl hl (by decide) rfl (fun ls hl => ?_)
    refine lv_iload_n hx hb dX11_strip_15 rfl (lv_at hl 0 rfl) ?_
    refine lv_if_eq (tgt := 25) hx hb dX11_strip_16 (by decide) (fun c_3 => ?_) (fun c_3 => ?_)
    · have q_4 := eqb_t c_3
      refine lv_aload_n hx hb dX11_strip_25 rfl (lv_at hl 1 rfl) ?_
      refine x_get (index := 22) hx hb hts hown hK hI hM 5 (by decide) m_fl_X11_22 rfl dX11_strip_26 rfl ?_
      refine lv_aload_n hx hb dX11_strip_29 rfl (lv_at hl 1 rfl) ?_
      refine x_get (index := 7) hx hb hts hown hK hI hM 0 (by decide) m_fl_X11_7 rfl dX11_strip_30 rfl ?_
      refine lv_iload_n hx hb dX11_strip_33 rfl (lv_at hl 2 rfl) ?_
      refine x_ld hx hb hK hI hM 0 (by decide) (sh_in h_1) dX11_strip_34 ?_
      refine x_ld hx hb hK hI hM 5 (by decide) (hw.sh (sh_in h_1)) dX11_strip_35 ?_
      refine lv_istore_n (lv' := [(3, .int (A 5 (ix (A 0 (ix s))))), (2, .int (wRw A s)), (0, .ref mo), (1, .int s)]) hx hb dX11_strip_36 rfl hl (by decide) rfl (fun ls hl => ?_)
      refine lv_aload_n hx hb dX11_strip_37 rfl (lv_at hl 2 rfl) ?_
      refine x_get (index := 22) hx hb hts hown hK hI hM 5 (by decide) m_fl_X11_22 rfl dX11_strip_38 rfl ?_
      refine lv_aload_n hx hb dX11_strip_41 rfl (lv_at hl 2 rfl) ?_
      refine x_get (index := 7) hx hb hts hown hK hI hM 0 (by decide) m_fl_X11_7 rfl dX11_strip_42 rfl ?_
      refine lv_iload_n hx hb dX11_strip_45 rfl (lv_at hl 3 rfl) ?_
      refine x_ld hx hb hK hI hM 0 (by decide) (sh_in h_1) dX11_strip_46 ?_
      refine lv_iconst (v := -1) hx hb dX11_strip_47 (by decide) ?_
      refine x_st hx hb hK hI hM 5 (by decide) (hw.sh (sh_in h_1)) dX11_strip_48 (fun G1 H1 L1 hM hI => ?_)
      refine lv_iload_n hx hb dX11_strip_49 rfl (lv_at hl 0 rfl) ?_
      have e9 : sp_strip A s = ((A 5 (ix (A 0 (ix s)))), (u2 A 5 (ix (A 0 (ix s))) (-1))) := by
        simp only [sp_strip, rfi, rfj, h_1, q_4, reduceIte, Bool.false_eq_true, not_true_eq_false, not_false_eq_true]
      exact g_iret hx hb hr hlocks hI ⟨_, rfl, by rw [e9], by rw [e9]; exact hM⟩ dX11_strip_50 (Nat.le_of_ble_eq_true rfl) (Nat.le_of_ble_eq_true rfl)
    · have q_5 := eqb_f c_3
      refine lv_aload_n hx hb dX11_strip_19 rfl (lv_at hl 1 rfl) ?_
      refine lv_iload_n hx hb dX11_strip_20 rfl (lv_at hl 0 rfl) ?_
      refine g_callV (own := RX11) (index := 56) (n := 1) hx hb hml hown hts (c_X11_refuse l E b0 _ mo ma _ hM (wRw A s) wRw_in) hM.1 rfl rfl m_ml_X11_56 m_im_X11_refuse m_se_X11_X11_refuse_X11_refuse m_in_X11 m_co_X11_refuse (by decide +kernel) ⟨Nat.le_of_ble_eq_true rfl, Nat.le_of_ble_eq_true rfl⟩ ⟨Nat.le_of_ble_eq_true rfl, Nat.le_of_ble_eq_true rfl⟩ rfl hl.1 rfl (Nat.le_of_ble_eq_true rfl) dX11_strip_21 hK hI (fun r G1 H1 L1 hp hI => ?_)
      obtain ⟨v, rfl, ev, hM⟩ := hp
      subst ev
      refine W.eq (g2 := F0 mI 24 ls [.int (-10 - (wRw A s))]) rfl ?_
      have e9 : sp_strip A s = ((-10 - (wRw A s)), (rfs A (wRw A s))) := by
        simp only [sp_strip, rfi, rfj, h_1, q_5, reduceIte, Bool.false_eq_true, not_true_eq_false, not_false_eq_true]
      exact g_iret hx hb hr hlocks hI ⟨_, rfl, by rw [e9], by rw [e9]; exact hM⟩ dX11_strip_24 (Nat.le_of_ble_eq_true rfl) (Nat.le_of_ble_eq_true rfl)
  · rw [hG] at hI
    refine W.eq (g2 := F0 mI 4 ls [.int 0]) rfl ?_
    refine lv_if_ne (tgt := 9) hx hb dX11_strip_4 (by decide) (fun c_6 => absurd c_6 (by decide)) (fun _ => ?_)
    refine lv_iconst (v := -1) hx hb dX11_strip_7 (by decide) ?_
    have e9 : sp_strip A s = ((-1), A) := by
      simp only [sp_strip, rfi, rfj, h_1, reduceIte, Bool.false_eq_true, not_true_eq_false, not_false_eq_true]
    exact g_iret hx hb hr hlocks hI ⟨_, rfl, by rw [e9], by rw [e9]; exact hM⟩ dX11_strip_8 (Nat.le_of_ble_eq_true rfl) (Nat.le_of_ble_eq_true rfl)
set_option maxHeartbeats 4000000 in
set_option maxRecDepth 100000 in
theorem c_X11_put (l : Launch) (E : gE) (b0 : Nat) (G : gG) (mo : Nat) (ma : Nat → Nat) (A : gA) (hM : gMod E mo ma A G) (nn : Nat) (hw : wfb A nn) (s i f : Int32) : gM l yX11_put cX11_put 7 (some .int) 5 0 0 E b0 G [.ref mo, .int s, .int i, .int f] (pI (fun v9 G1 => v9 = (sp_put A s i f).1 ∧ gMod E mo ma (sp_put A s i f).2 G1)) := by
  refine gM.of (by decide +kernel) (Nat.le_of_ble_eq_true rfl) ?_
  intro pP eP sP mI bP meth cP ls hx hb hr hml hown hlocks hnm hts hK hI hl
  have hl : lv_has ls 7 [(0, .ref mo), (1, .int s), (2, .int i), (3, .int f)] := hl
  have hown : sP.vm.findClass RX11 = some mI.cls := hown
  refine lv_iload_n hx hb dX11_put_0 rfl (lv_at hl 1 rfl) ?_
  refine g_callS (own := RX11) (index := 64) (n := 1) hx hb hml hown hts (c_X11_isShelf l E b0 _ s) m_ml_X11_64 m_st_X11_isShelf m_in_X11 m_co_X11_isShelf (by decide +kernel) ⟨Nat.le_of_ble_eq_true rfl, Nat.le_of_ble_eq_true rfl⟩ ⟨Nat.le_of_ble_eq_true rfl, Nat.le_of_ble_eq_true rfl⟩ rfl hl.1 rfl (Nat.le_of_ble_eq_true rfl) dX11_put_1 hK hI (fun r G1 H1 L1 hp hI => ?_)
  obtain ⟨v, rfl, hG, ⟨h_1, rfl⟩ | ⟨h_1, rfl⟩⟩ := hp
  · rw [hG] at hI
    refine W.eq (g2 := F0 mI 4 ls [.int 1]) rfl ?_
    refine lv_if_eq (tgt := 14) hx hb dX11_put_4 (by decide) (fun c_2 => absurd c_2 (by decide)) (fun _ => ?_)
    refine lv_iload_n hx hb dX11_put_7 rfl (lv_at hl 3 rfl) ?_
    refine g_callS (own := RX11) (index := 64) (n := 1) hx hb hml hown hts (c_X11_isShelf l E b0 _ f) m_ml_X11_64 m_st_X11_isShelf m_in_X11 m_co_X11_isShelf (by decide +kernel) ⟨Nat.le_of_ble_eq_true rfl, Nat.le_of_ble_eq_true rfl⟩ ⟨Nat.le_of_ble_eq_true rfl, Nat.le_of_ble_eq_true rfl⟩ rfl hl.1 rfl (Nat.le_of_ble_eq_true rfl) dX11_put_8 hK hI (fun r G1 H1 L1 hp hI => ?_)
    obtain ⟨v, rfl, hG, ⟨h_3, rfl⟩ | ⟨h_3, rfl⟩⟩ := hp
    · rw [hG] at hI
      refine W.eq (g2 := F0 mI 11 ls [.int 1]) rfl ?_
      refine lv_if_ne (tgt := 16) hx hb dX11_put_11 (by decide) (fun _ => ?_) (fun c_4 => absurd c_4 (by decide))
      refine lv_aload_n hx hb dX11_put_16 rfl (lv_at hl 0 rfl) ?_
      refine x_get (index := 7) hx hb hts hown hK hI hM 0 (by decide) m_fl_X11_7 rfl dX11_put_17 rfl ?_
      refine lv_iload_n hx hb dX11_put_20 rfl (lv_at hl 3 rfl) ?_
      refine x_ld hx hb hK hI hM 0 (by decide) (sh_in h_3) dX11_put_21 ?_
      refine lv_istore (lv' := [(4, .int (A 0 (ix f))), (0, .ref mo), (1, .int s), (2, .int i), (3, .int f)]) hx hb dX11_put_22 hl (by decide) rfl (fun ls hl => ?_)
      refine lv_aload_n hx hb dX11_put_24 rfl (lv_at hl 1 rfl) ?_
      refine lv_aload_n hx hb dX11_put_25 rfl (lv_at hl 1 rfl) ?_
      refine x_get (index := 7) hx hb hts hown hK hI hM 0 (by decide) m_fl_X11_7 rfl dX11_put_26 rfl ?_
      refine lv_iload_n hx hb dX11_put_29 rfl (lv_at hl 2 rfl) ?_
      refine x_ld hx hb hK hI hM 0 (by decide) (sh_in h_1) dX11_put_30 ?_
      refine lv_bipush (v := 6) hx hb dX11_put_31 (by decide) ?_
      refine lv_bipush (v := 7) hx hb dX11_put_33 (by decide) ?_
      refine g_callV (own := RX11) (index := 76) (n := 3) hx hb hml hown hts (c_X11_fits l E b0 _ mo ma _ hM (A 0 (ix s)) 6 7 (hw.sh (sh_in h_1))) hM.1 rfl rfl m_ml_X11_76 m_im_X11_fits m_se_X11_X11_fits_X11_fits m_in_X11 m_co_X11_fits (by decide +kernel) ⟨Nat.le_of_ble_eq_true rfl, Nat.le_of_ble_eq_true rfl⟩ ⟨Nat.le_of_ble_eq_true rfl, Nat.le_of_ble_eq_true rfl⟩ rfl hl.1 rfl (Nat.le_of_ble_eq_true rfl) dX11_put_35 hK hI (fun r G1 H1 L1 hp hI => ?_)
      obtain ⟨v, rfl, hG, ⟨h_5, rfl⟩ | ⟨h_5, rfl⟩⟩ := hp
      · rw [hG] at hI
        refine W.eq (g2 := F0 mI 38 ls [.int 1]) rfl ?_
        refine lv_if_eq (tgt := 52) hx hb dX11_put_38 (by decide) (fun c_6 => absurd c_6 (by decide)) (fun _ => ?_)
        refine lv_aload_n hx hb dX11_put_41 rfl (lv_at hl 1 rfl) ?_
        refine lv_iload hx hb dX11_put_42 (lv_at hl 0 rfl) ?_
        refine lv_iconst (v := 0) hx hb dX11_put_44 (by decide) ?_
        refine lv_iconst (v := 1) hx hb dX11_put_45 (by decide) ?_
        refine g_callV (own := RX11) (index := 76) (n := 3) hx hb hml hown hts (c_X11_fits l E b0 _ mo ma _ hM (A 0 (ix f)) 0 1 (hw.sh (sh_in h_3))) hM.1 rfl rfl m_ml_X11_76 m_im_X11_fits m_se_X11_X11_fits_X11_fits m_in_X11 m_co_X11_fits (by decide +kernel) ⟨Nat.le_of_ble_eq_true rfl, Nat.le_of_ble_eq_true rfl⟩ ⟨Nat.le_of_ble_eq_true rfl, Nat.le_of_ble_eq_true rfl⟩ rfl hl.1 rfl (Nat.le_of_ble_eq_true rfl) dX11_put_46 hK hI (fun r G1 H1 L1 hp hI => ?_)
        obtain ⟨v, rfl, hG, ⟨h_7, rfl⟩ | ⟨h_7, rfl⟩⟩ := hp
        · rw [hG] at hI
          refine W.eq (g2 := F0 mI 49 ls [.int 1]) rfl ?_
          refine lv_if_ne (tgt := 58) hx hb dX11_put_49 (by decide) (fun _ => ?_) (fun c_8 => absurd c_8 (by decide))
          refine lv_aload_n hx hb dX11_put_58 rfl (lv_at hl 1 rfl) ?_
          refine lv_iload_n hx hb dX11_put_59 rfl (lv_at hl 2 rfl) ?_
          refine lv_iload_n hx hb dX11_put_60 rfl (lv_at hl 3 rfl) ?_
          refine g_callV (own := RX11) (index := 85) (n := 2) hx hb hml hown hts (c_X11_wrongSlot l E b0 _ mo ma _ hM nn hw s i h_1) hM.1 rfl rfl m_ml_X11_85 m_im_X11_wrongSlot m_se_X11_X11_wrongSlot_X11_wrongSlot m_in_X11 m_co_X11_wrongSlot (by decide +kernel) ⟨Nat.le_of_ble_eq_true rfl, Nat.le_of_ble_eq_true rfl⟩ ⟨Nat.le_of_ble_eq_true rfl, Nat.le_of_ble_eq_true rfl⟩ rfl hl.1 rfl (Nat.le_of_ble_eq_true rfl) dX11_put_61 hK hI (fun r G1 H1 L1 hp hI => ?_)
          obtain ⟨v, rfl, ev, hG⟩ := hp
          subst ev
          rw [hG] at hI
          refine W.eq (g2 := F0 mI 64 ls [.int (wSl A s i)]) rfl ?_
          refine lv_istore (lv' := [(5, .int (wSl A s i)), (4, .int (A 0 (ix f))), (0, .ref mo), (1, .int s), (2, .int i), (3, .int f)]) hx hb dX11_put_64 hl (by decide) rfl (fun ls hl => ?_)
          refine lv_iload hx hb dX11_put_66 (lv_at hl 0 rfl) ?_
          refine lv_if_eq (tgt := 78) hx hb dX11_put_68 (by decide) (fun c_9 => ?_) (fun c_9 => ?_)
          · have q_10 := eqb_t c_9
            refine lv_aload_n hx hb dX11_put_78 rfl (lv_at hl 2 rfl) ?_
            refine x_get (index := 7) hx hb hts hown hK hI hM 0 (by decide) m_fl_X11_7 rfl dX11_put_79 rfl ?_
            refine lv_iload_n hx hb dX11_put_82 rfl (lv_at hl 3 rfl) ?_
            refine x_ld hx hb hK hI hM 0 (by decide) (sh_in h_1) dX11_put_83 ?_
            refine lv_istore (lv' := [(6, .int (A 0 (ix s))), (5, .int (wSl A s i)), (4, .int (A 0 (ix f))), (0, .ref mo), (1, .int s), (2, .int i), (3, .int f)]) hx hb dX11_put_84 hl (by decide) rfl (fun ls hl => ?_)
            refine lv_aload_n hx hb dX11_put_86 rfl (lv_at hl 3 rfl) ?_
            refine x_get (index := 13) hx hb hts hown hK hI hM 2 (by decide) m_fl_X11_13 rfl dX11_put_87 rfl ?_
            refine lv_iload hx hb dX11_put_90 (lv_at hl 0 rfl) ?_
            refine x_ld hx hb hK hI hM 2 (by decide) (hw.sh (sh_in h_1)) dX11_put_92 ?_
            refine lv_bipush (v := 7) hx hb dX11_put_93 (by decide) ?_
            refine lv_icmp_ne (tgt := 115) hx hb dX11_put_95 (by decide) (fun c_11 => ?_) (fun c_11 => ?_)
            · have q_12 := eqb_f c_11
              refine lv_aload_n hx hb dX11_put_115 rfl (lv_at hl 3 rfl) ?_
              refine x_get (index := 25) hx hb hts hown hK hI hM 6 (by decide) m_fl_X11_25 rfl dX11_put_116 rfl ?_
              refine lv_bipush (v := 30) hx hb dX11_put_119 (by decide) ?_
              refine lv_iload hx hb dX11_put_121 (lv_at hl 0 rfl) ?_
              refine lv_imul hx hb dX11_put_123 ?_
              refine lv_iload_n hx hb dX11_put_124 rfl (lv_at hl 5 rfl) ?_
              refine lv_iadd hx hb dX11_put_125 ?_
              refine lv_iload hx hb dX11_put_126 (lv_at hl 2 rfl) ?_
              refine x_st hx hb hK hI hM 6 (by decide) (hw.ri (sh_in h_1) c_9) dX11_put_128 (fun G1 H1 L1 hM hI => ?_)
              refine lv_iload hx hb dX11_put_129 (lv_at hl 2 rfl) ?_
              refine lv_if_ne (tgt := 138) hx hb dX11_put_131 (by decide) (fun c_13 => ?_) (fun c_13 => ?_)
              · have q_14 := eqb_f c_13
                refine lv_iconst (v := 1) hx hb dX11_put_138 (by decide) ?_
                have e9 : sp_put A s i f = (1, (u2 A 6 (ix ((30 * (A 0 (ix s))) + i)) (A 0 (ix f)))) := by
                  simp only [sp_put, rfi, rfj, h_1, h_3, h_5, h_7, q_10, q_12, q_14, reduceIte, Bool.false_eq_true, not_true_eq_false, not_false_eq_true]
                exact g_iret hx hb hr hlocks hI ⟨_, rfl, by rw [e9], by rw [e9]; exact hM⟩ dX11_put_139 (Nat.le_of_ble_eq_true rfl) (Nat.le_of_ble_eq_true rfl)
              · have q_15 := eqb_t c_13
                refine lv_iconst (v := 0) hx hb dX11_put_134 (by decide) ?_
                refine lv_goto (tgt := 139) hx hb dX11_put_135 (by decide) ?_
                have e9 : sp_put A s i f = (0, (u2 A 6 (ix ((30 * (A 0 (ix s))) + i)) (A 0 (ix f)))) := by
                  simp only [sp_put, rfi, rfj, h_1, h_3, h_5, h_7, q_10, q_12, q_15, reduceIte, Bool.false_eq_true, not_true_eq_false, not_false_eq_true]
                exact g_iret hx hb hr hlocks hI ⟨_, rfl, by rw [e9], by rw [e9]; exact hM⟩ dX11_put_139 (Nat.le_of_ble_eq_true rfl) (Nat.le_of_ble_eq_true rfl)
            · have q_16 := eqb_t c_11
              refine lv_aload_n hx hb dX11_put_98 rfl (lv_at hl 3 rfl) ?_
              refine lv_iload hx hb dX11_put_99 (lv_at hl 2 rfl) ?_
              refine lv_iconst (v := 1) hx hb dX11_put_101 (by decide) ?_
              refine lv_iconst (v := 1) hx hb dX11_put_102 (by decide) ?_
              refine g_callV (own := RX11) (index := 76) (n := 3) hx hb hml hown hts (c_X11_fits l E b0 _ mo ma _ hM (A 0 (ix f)) 1 1 (hw.sh (sh_in h_3))) hM.1 rfl rfl m_ml_X11_76 m_im_X11_fits m_se_X11_X11_fits_X11_fits m_in_X11 m_co_X11_fits (by decide +kernel) ⟨Nat.le_of_ble_eq_true rfl, Nat.le_of_ble_eq_true rfl⟩ ⟨Nat.le_of_ble_eq_true rfl, Nat.le_of_ble_eq_true rfl⟩ rfl hl.1 rfl (Nat.le_of_ble_eq_true rfl) dX11_put_103 hK hI (fun r G1 H1 L1 hp hI => ?_)
              obtain ⟨v, rfl, hG, ⟨h_17, rfl⟩ | ⟨h_17, rfl⟩⟩ := hp
              · rw [hG] at hI
                refine W.eq (g2 := F0 mI 106 ls [.int 1]) rfl ?_
                refine lv_if_ne (tgt := 115) hx hb dX11_put_106 (by decide) (fun _ => ?_) (fun c_18 => absurd c_18 (by decide))
                refine lv_aload_n hx hb dX11_put_115 rfl (lv_at hl 3 rfl) ?_
                refine x_get (index := 25) hx hb hts hown hK hI hM 6 (by decide) m_fl_X11_25 rfl dX11_put_116 rfl ?_
                refine lv_bipush (v := 30) hx hb dX11_put_119 (by decide) ?_
                refine lv_iload hx hb dX11_put_121 (lv_at hl 0 rfl) ?_
                refine lv_imul hx hb dX11_put_123 ?_
                refine lv_iload_n hx hb dX11_put_124 rfl (lv_at hl 5 rfl) ?_
                refine lv_iadd hx hb dX11_put_125 ?_
                refine lv_iload hx hb dX11_put_126 (lv_at hl 2 rfl) ?_
                refine x_st hx hb hK hI hM 6 (by decide) (hw.ri (sh_in h_1) c_9) dX11_put_128 (fun G1 H1 L1 hM hI => ?_)
                refine lv_iload hx hb dX11_put_129 (lv_at hl 2 rfl) ?_
                refine lv_if_ne (tgt := 138) hx hb dX11_put_131 (by decide) (fun c_19 => ?_) (fun c_19 => ?_)
                · have q_20 := eqb_f c_19
                  refine lv_iconst (v := 1) hx hb dX11_put_138 (by decide) ?_
                  have e9 : sp_put A s i f = (1, (u2 A 6 (ix ((30 * (A 0 (ix s))) + i)) (A 0 (ix f)))) := by
                    simp only [sp_put, rfi, rfj, h_1, h_3, h_5, h_7, q_10, q_16, h_17, q_20, reduceIte, Bool.false_eq_true, not_true_eq_false, not_false_eq_true]
                  exact g_iret hx hb hr hlocks hI ⟨_, rfl, by rw [e9], by rw [e9]; exact hM⟩ dX11_put_139 (Nat.le_of_ble_eq_true rfl) (Nat.le_of_ble_eq_true rfl)
                · have q_21 := eqb_t c_19
                  refine lv_iconst (v := 0) hx hb dX11_put_134 (by decide) ?_
                  refine lv_goto (tgt := 139) hx hb dX11_put_135 (by decide) ?_
                  have e9 : sp_put A s i f = (0, (u2 A 6 (ix ((30 * (A 0 (ix s))) + i)) (A 0 (ix f)))) := by
                    simp only [sp_put, rfi, rfj, h_1, h_3, h_5, h_7, q_10, q_16, h_17, q_21, reduceIte, Bool.false_eq_true, not_true_eq_false, not_false_eq_true]
                  exact g_iret hx hb hr hlocks hI ⟨_, rfl, by rw [e9], by rw [e9]; exact hM⟩ dX11_put_139 (Nat.le_of_ble_eq_true rfl) (Nat.le_of_ble_eq_true rfl)
              · rw [hG] at hI
                refine W.eq (g2 := F0 mI 106 ls [.int 0]) rfl ?_
                refine lv_if_ne (tgt := 115) hx hb dX11_put_106 (by decide) (fun c_22 => absurd c_22 (by decide)) (fun _ => ?_)
                refine lv_aload_n hx hb dX11_put_109 rfl (lv_at hl 3 rfl) ?_
                refine lv_iconst (v := 4) hx hb dX11_put_110 (by decide) ?_
                refine g_callV (own := RX11) (index := 56) (n := 1) hx hb hml hown hts (c_X11_refuse l E b0 _ mo ma _ hM 4 (vp_in_iff.mpr (by decide))) hM.1 rfl rfl m_ml_X11_56 m_im_X11_refuse m_se_X11_X11_refuse_X11_refuse m_in_X11 m_co_X11_refuse (by decide +kernel) ⟨Nat.le_of_ble_eq_true rfl, Nat.le_of_ble_eq_true rfl⟩ ⟨Nat.le_of_ble_eq_true rfl, Nat.le_of_ble_eq_true rfl⟩ rfl hl.1 rfl (Nat.le_of_ble_eq_true rfl) dX11_put_111 hK hI (fun r G1 H1 L1 hp hI => ?_)
                obtain ⟨v, rfl, ev, hM⟩ := hp
                subst ev
                refine W.eq (g2 := F0 mI 114 ls [.int (-10 - 4)]) rfl ?_
                have e9 : sp_put A s i f = ((-10 - 4), (rfs A 4)) := by
                  simp only [sp_put, rfi, rfj, h_1, h_3, h_5, h_7, q_10, q_16, h_17, reduceIte, Bool.false_eq_true, not_true_eq_false, not_false_eq_true]
                exact g_iret hx hb hr hlocks hI ⟨_, rfl, by rw [e9], by rw [e9]; exact hM⟩ dX11_put_114 (Nat.le_of_ble_eq_true rfl) (Nat.le_of_ble_eq_true rfl)
          · have q_23 := eqb_f c_9
            refine lv_aload_n hx hb dX11_put_71 rfl (lv_at hl 2 rfl) ?_
            refine lv_iload hx hb dX11_put_72 (lv_at hl 0 rfl) ?_
            refine g_callV (own := RX11) (index := 56) (n := 1) hx hb hml hown hts (c_X11_refuse l E b0 _ mo ma _ hM (wSl A s i) wSl_in) hM.1 rfl rfl m_ml_X11_56 m_im_X11_refuse m_se_X11_X11_refuse_X11_refuse m_in_X11 m_co_X11_refuse (by decide +kernel) ⟨Nat.le_of_ble_eq_true rfl, Nat.le_of_ble_eq_true rfl⟩ ⟨Nat.le_of_ble_eq_true rfl, Nat.le_of_ble_eq_true rfl⟩ rfl hl.1 rfl (Nat.le_of_ble_eq_true rfl) dX11_put_74 hK hI (fun r G1 H1 L1 hp hI => ?_)
            obtain ⟨v, rfl, ev, hM⟩ := hp
            subst ev
            refine W.eq (g2 := F0 mI 77 ls [.int (-10 - (wSl A s i))]) rfl ?_
            have e9 : sp_put A s i f = ((-10 - (wSl A s i)), (rfs A (wSl A s i))) := by
              simp only [sp_put, rfi, rfj, h_1, h_3, h_5, h_7, q_23, reduceIte, Bool.false_eq_true, not_true_eq_false, not_false_eq_true]
            exact g_iret hx hb hr hlocks hI ⟨_, rfl, by rw [e9], by rw [e9]; exact hM⟩ dX11_put_77 (Nat.le_of_ble_eq_true rfl) (Nat.le_of_ble_eq_true rfl)
        · rw [hG] at hI
          refine W.eq (g2 := F0 mI 49 ls [.int 0]) rfl ?_
          refine lv_if_ne (tgt := 58) hx hb dX11_put_49 (by decide) (fun c_24 => absurd c_24 (by decide)) (fun _ => ?_)
          refine lv_aload_n hx hb dX11_put_52 rfl (lv_at hl 1 rfl) ?_
          refine lv_iconst (v := 5) hx hb dX11_put_53 (by decide) ?_
          refine g_callV (own := RX11) (index := 56) (n := 1) hx hb hml hown hts (c_X11_refuse l E b0 _ mo ma _ hM 5 (vp_in_iff.mpr (by decide))) hM.1 rfl rfl m_ml_X11_56 m_im_X11_refuse m_se_X11_X11_refuse_X11_refuse m_in_X11 m_co_X11_refuse (by decide +kernel) ⟨Nat.le_of_ble_eq_true rfl, Nat.le_of_ble_eq_true rfl⟩ ⟨Nat.le_of_ble_eq_true rfl, Nat.le_of_ble_eq_true rfl⟩ rfl hl.1 rfl (Nat.le_of_ble_eq_true rfl) dX11_put_54 hK hI (fun r G1 H1 L1 hp hI => ?_)
          obtain ⟨v, rfl, ev, hM⟩ := hp
          subst ev
          refine W.eq (g2 := F0 mI 57 ls [.int (-10 - 5)]) rfl ?_
          have e9 : sp_put A s i f = ((-10 - 5), (rfs A 5)) := by
            simp only [sp_put, rfi, rfj, h_1, h_3, h_5, h_7, reduceIte, Bool.false_eq_true, not_true_eq_false, not_false_eq_true]
          exact g_iret hx hb hr hlocks hI ⟨_, rfl, by rw [e9], by rw [e9]; exact hM⟩ dX11_put_57 (Nat.le_of_ble_eq_true rfl) (Nat.le_of_ble_eq_true rfl)
      · rw [hG] at hI
        refine W.eq (g2 := F0 mI 38 ls [.int 0]) rfl ?_
        refine lv_if_eq (tgt := 52) hx hb dX11_put_38 (by decide) (fun _ => ?_) (fun c_25 => absurd c_25 (by decide))
        refine lv_aload_n hx hb dX11_put_52 rfl (lv_at hl 1 rfl) ?_
        refine lv_iconst (v := 5) hx hb dX11_put_53 (by decide) ?_
        refine g_callV (own := RX11) (index := 56) (n := 1) hx hb hml hown hts (c_X11_refuse l E b0 _ mo ma _ hM 5 (vp_in_iff.mpr (by decide))) hM.1 rfl rfl m_ml_X11_56 m_im_X11_refuse m_se_X11_X11_refuse_X11_refuse m_in_X11 m_co_X11_refuse (by decide +kernel) ⟨Nat.le_of_ble_eq_true rfl, Nat.le_of_ble_eq_true rfl⟩ ⟨Nat.le_of_ble_eq_true rfl, Nat.le_of_ble_eq_true rfl⟩ rfl hl.1 rfl (Nat.le_of_ble_eq_true rfl) dX11_put_54 hK hI (fun r G1 H1 L1 hp hI => ?_)
        obtain ⟨v, rfl, ev, hM⟩ := hp
        subst ev
        refine W.eq (g2 := F0 mI 57 ls [.int (-10 - 5)]) rfl ?_
        have e9 : sp_put A s i f = ((-10 - 5), (rfs A 5)) := by
          simp only [sp_put, rfi, rfj, h_1, h_3, h_5, reduceIte, Bool.false_eq_true, not_true_eq_false, not_false_eq_true]
        exact g_iret hx hb hr hlocks hI ⟨_, rfl, by rw [e9], by rw [e9]; exact hM⟩ dX11_put_57 (Nat.le_of_ble_eq_true rfl) (Nat.le_of_ble_eq_true rfl)
    · rw [hG] at hI
      refine W.eq (g2 := F0 mI 11 ls [.int 0]) rfl ?_
      refine lv_if_ne (tgt := 16) hx hb dX11_put_11 (by decide) (fun c_26 => absurd c_26 (by decide)) (fun _ => ?_)
      refine lv_iconst (v := -1) hx hb dX11_put_14 (by decide) ?_
      have e9 : sp_put A s i f = ((-1), A) := by
        simp only [sp_put, rfi, rfj, h_1, h_3, reduceIte, Bool.false_eq_true, not_true_eq_false, not_false_eq_true]
      exact g_iret hx hb hr hlocks hI ⟨_, rfl, by rw [e9], by rw [e9]; exact hM⟩ dX11_put_15 (Nat.le_of_ble_eq_true rfl) (Nat.le_of_ble_eq_true rfl)
  · rw [hG] at hI
    refine W.eq (g2 := F0 mI 4 ls [.int 0]) rfl ?_
    refine lv_if_eq (tgt := 14) hx hb dX11_put_4 (by decide) (fun _ => ?_) (fun c_27 => absurd c_27 (by decide))
    refine lv_iconst (v := -1) hx hb dX11_put_14 (by decide) ?_
    have e9 : sp_put A s i f = ((-1), A) := by
      simp only [sp_put, rfi, rfj, h_1, reduceIte, Bool.false_eq_true, not_true_eq_false, not_false_eq_true]
    exact g_iret hx hb hr hlocks hI ⟨_, rfl, by rw [e9], by rw [e9]; exact hM⟩ dX11_put_15 (Nat.le_of_ble_eq_true rfl) (Nat.le_of_ble_eq_true rfl)
set_option maxHeartbeats 4000000 in
set_option maxRecDepth 100000 in
theorem c_X11_take (l : Launch) (E : gE) (b0 : Nat) (G : gG) (mo : Nat) (ma : Nat → Nat) (A : gA) (hM : gMod E mo ma A G) (nn : Nat) (hw : wfb A nn) (s i f : Int32) : gM l yX11_take cX11_take 7 (some .int) 5 0 0 E b0 G [.ref mo, .int s, .int i, .int f] (pI (fun v9 G1 => v9 = (sp_take A s i f).1 ∧ gMod E mo ma (sp_take A s i f).2 G1)) := by
  refine gM.of (by decide +kernel) (Nat.le_of_ble_eq_true rfl) ?_
  intro pP eP sP mI bP meth cP ls hx hb hr hml hown hlocks hnm hts hK hI hl
  have hl : lv_has ls 7 [(0, .ref mo), (1, .int s), (2, .int i), (3, .int f)] := hl
  have hown : sP.vm.findClass RX11 = some mI.cls := hown
  refine lv_iload_n hx hb dX11_take_0 rfl (lv_at hl 1 rfl) ?_
  refine g_callS (own := RX11) (index := 64) (n := 1) hx hb hml hown hts (c_X11_isShelf l E b0 _ s) m_ml_X11_64 m_st_X11_isShelf m_in_X11 m_co_X11_isShelf (by decide +kernel) ⟨Nat.le_of_ble_eq_true rfl, Nat.le_of_ble_eq_true rfl⟩ ⟨Nat.le_of_ble_eq_true rfl, Nat.le_of_ble_eq_true rfl⟩ rfl hl.1 rfl (Nat.le_of_ble_eq_true rfl) dX11_take_1 hK hI (fun r G1 H1 L1 hp hI => ?_)
  obtain ⟨v, rfl, hG, ⟨h_1, rfl⟩ | ⟨h_1, rfl⟩⟩ := hp
  · rw [hG] at hI
    refine W.eq (g2 := F0 mI 4 ls [.int 1]) rfl ?_
    refine lv_if_eq (tgt := 14) hx hb dX11_take_4 (by decide) (fun c_2 => absurd c_2 (by decide)) (fun _ => ?_)
    refine lv_iload_n hx hb dX11_take_7 rfl (lv_at hl 3 rfl) ?_
    refine g_callS (own := RX11) (index := 64) (n := 1) hx hb hml hown hts (c_X11_isShelf l E b0 _ f) m_ml_X11_64 m_st_X11_isShelf m_in_X11 m_co_X11_isShelf (by decide +kernel) ⟨Nat.le_of_ble_eq_true rfl, Nat.le_of_ble_eq_true rfl⟩ ⟨Nat.le_of_ble_eq_true rfl, Nat.le_of_ble_eq_true rfl⟩ rfl hl.1 rfl (Nat.le_of_ble_eq_true rfl) dX11_take_8 hK hI (fun r G1 H1 L1 hp hI => ?_)
    obtain ⟨v, rfl, hG, ⟨h_3, rfl⟩ | ⟨h_3, rfl⟩⟩ := hp
    · rw [hG] at hI
      refine W.eq (g2 := F0 mI 11 ls [.int 1]) rfl ?_
      refine lv_if_ne (tgt := 16) hx hb dX11_take_11 (by decide) (fun _ => ?_) (fun c_4 => absurd c_4 (by decide))
      refine lv_aload_n hx hb dX11_take_16 rfl (lv_at hl 0 rfl) ?_
      refine lv_iload_n hx hb dX11_take_17 rfl (lv_at hl 1 rfl) ?_
      refine lv_iload_n hx hb dX11_take_18 rfl (lv_at hl 2 rfl) ?_
      refine g_callV (own := RX11) (index := 85) (n := 2) hx hb hml hown hts (c_X11_wrongSlot l E b0 _ mo ma _ hM nn hw s i h_1) hM.1 rfl rfl m_ml_X11_85 m_im_X11_wrongSlot m_se_X11_X11_wrongSlot_X11_wrongSlot m_in_X11 m_co_X11_wrongSlot (by decide +kernel) ⟨Nat.le_of_ble_eq_true rfl, Nat.le_of_ble_eq_true rfl⟩ ⟨Nat.le_of_ble_eq_true rfl, Nat.le_of_ble_eq_true rfl⟩ rfl hl.1 rfl (Nat.le_of_ble_eq_true rfl) dX11_take_19 hK hI (fun r G1 H1 L1 hp hI => ?_)
      obtain ⟨v, rfl, ev, hG⟩ := hp
      subst ev
      rw [hG] at hI
      refine W.eq (g2 := F0 mI 22 ls [.int (wSl A s i)]) rfl ?_
      refine lv_istore (lv' := [(4, .int (wSl A s i)), (0, .ref mo), (1, .int s), (2, .int i), (3, .int f)]) hx hb dX11_take_22 hl (by decide) rfl (fun ls hl => ?_)
      refine lv_iload hx hb dX11_take_24 (lv_at hl 0 rfl) ?_
      refine lv_if_eq (tgt := 36) hx hb dX11_take_26 (by decide) (fun c_5 => ?_) (fun c_5 => ?_)
      · have q_6 := eqb_t c_5
        refine lv_bipush (v := 30) hx hb dX11_take_36 (by decide) ?_
        refine lv_aload_n hx hb dX11_take_38 rfl (lv_at hl 1 rfl) ?_
        refine x_get (index := 7) hx hb hts hown hK hI hM 0 (by decide) m_fl_X11_7 rfl dX11_take_39 rfl ?_
        refine lv_iload_n hx hb dX11_take_42 rfl (lv_at hl 2 rfl) ?_
        refine x_ld hx hb hK hI hM 0 (by decide) (sh_in h_1) dX11_take_43 ?_
        refine lv_imul hx hb dX11_take_44 ?_
        refine lv_iload_n hx hb dX11_take_45 rfl (lv_at hl 3 rfl) ?_
        refine lv_iadd hx hb dX11_take_46 ?_
        refine lv_istore (lv' := [(5, .int ((30 * (A 0 (ix s))) + i)), (4, .int (wSl A s i)), (0, .ref mo), (1, .int s), (2, .int i), (3, .int f)]) hx hb dX11_take_47 hl (by decide) rfl (fun ls hl => ?_)
        refine lv_aload_n hx hb dX11_take_49 rfl (lv_at hl 2 rfl) ?_
        refine x_get (index := 25) hx hb hts hown hK hI hM 6 (by decide) m_fl_X11_25 rfl dX11_take_50 rfl ?_
        refine lv_iload hx hb dX11_take_53 (lv_at hl 0 rfl) ?_
        refine x_ld hx hb hK hI hM 6 (by decide) (hw.ri (sh_in h_1) c_5) dX11_take_55 ?_
        refine lv_istore (lv' := [(6, .int (A 6 (ix ((30 * (A 0 (ix s))) + i)))), (5, .int ((30 * (A 0 (ix s))) + i)), (4, .int (wSl A s i)), (0, .ref mo), (1, .int s), (2, .int i), (3, .int f)]) hx hb dX11_take_56 hl (by decide) rfl (fun ls hl => ?_)
        refine lv_aload_n hx hb dX11_take_58 rfl (lv_at hl 3 rfl) ?_
        refine x_get (index := 25) hx hb hts hown hK hI hM 6 (by decide) m_fl_X11_25 rfl dX11_take_59 rfl ?_
        refine lv_iload hx hb dX11_take_62 (lv_at hl 1 rfl) ?_
        refine lv_iconst (v := 0) hx hb dX11_take_64 (by decide) ?_
        refine x_st hx hb hK hI hM 6 (by decide) (hw.ri (sh_in h_1) c_5) dX11_take_65 (fun G1 H1 L1 hM hI => ?_)
        refine lv_aload_n hx hb dX11_take_66 rfl (lv_at hl 3 rfl) ?_
        refine x_get (index := 7) hx hb hts hown hK hI hM 0 (by decide) m_fl_X11_7 rfl dX11_take_67 rfl ?_
        refine lv_iload_n hx hb dX11_take_70 rfl (lv_at hl 6 rfl) ?_
        refine lv_iload hx hb dX11_take_71 (lv_at hl 0 rfl) ?_
        refine x_st hx hb hK hI hM 0 (by decide) (sh_in h_3) dX11_take_73 (fun G1 H1 L1 hM hI => ?_)
        refine lv_iload hx hb dX11_take_74 (lv_at hl 0 rfl) ?_
        refine lv_if_ne (tgt := 83) hx hb dX11_take_76 (by decide) (fun c_7 => ?_) (fun c_7 => ?_)
        · have q_8 := eqb_f c_7
          refine lv_iconst (v := 1) hx hb dX11_take_83 (by decide) ?_
          have e9 : sp_take A s i f = (1, (u2 (u2 A 6 (ix ((30 * (A 0 (ix s))) + i)) 0) 0 (ix f) (A 6 (ix ((30 * (A 0 (ix s))) + i))))) := by
            simp only [sp_take, rfi, rfj, h_1, h_3, q_6, q_8, reduceIte, Bool.false_eq_true, not_true_eq_false, not_false_eq_true]
          exact g_iret hx hb hr hlocks hI ⟨_, rfl, by rw [e9], by rw [e9]; exact hM⟩ dX11_take_84 (Nat.le_of_ble_eq_true rfl) (Nat.le_of_ble_eq_true rfl)
        · have q_9 := eqb_t c_7
          refine lv_iconst (v := 0) hx hb dX11_take_79 (by decide) ?_
          refine lv_goto (tgt := 84) hx hb dX11_take_80 (by decide) ?_
          have e9 : sp_take A s i f = (0, (u2 (u2 A 6 (ix ((30 * (A 0 (ix s))) + i)) 0) 0 (ix f) (A 6 (ix ((30 * (A 0 (ix s))) + i))))) := by
            simp only [sp_take, rfi, rfj, h_1, h_3, q_6, q_9, reduceIte, Bool.false_eq_true, not_true_eq_false, not_false_eq_true]
          exact g_iret hx hb hr hlocks hI ⟨_, rfl, by rw [e9], by rw [e9]; exact hM⟩ dX11_take_84 (Nat.le_of_ble_eq_true rfl) (Nat.le_of_ble_eq_true rfl)
      · have q_10 := eqb_f c_5
        refine lv_aload_n hx hb dX11_take_29 rfl (lv_at hl 1 rfl) ?_
        refine lv_iload hx hb dX11_take_30 (lv_at hl 0 rfl) ?_
        refine g_callV (own := RX11) (index := 56) (n := 1) hx hb hml hown hts (c_X11_refuse l E b0 _ mo ma _ hM (wSl A s i) wSl_in) hM.1 rfl rfl m_ml_X11_56 m_im_X11_refuse m_se_X11_X11_refuse_X11_refuse m_in_X11 m_co_X11_refuse (by decide +kernel) ⟨Nat.le_of_ble_eq_true rfl, Nat.le_of_ble_eq_true rfl⟩ ⟨Nat.le_of_ble_eq_true rfl, Nat.le_of_ble_eq_true rfl⟩ rfl hl.1 rfl (Nat.le_of_ble_eq_true rfl) dX11_take_32 hK hI (fun r G1 H1 L1 hp hI => ?_)
        obtain ⟨v, rfl, ev, hM⟩ := hp
        subst ev
        refine W.eq (g2 := F0 mI 35 ls [.int (-10 - (wSl A s i))]) rfl ?_
        have e9 : sp_take A s i f = ((-10 - (wSl A s i)), (rfs A (wSl A s i))) := by
          simp only [sp_take, rfi, rfj, h_1, h_3, q_10, reduceIte, Bool.false_eq_true, not_true_eq_false, not_false_eq_true]
        exact g_iret hx hb hr hlocks hI ⟨_, rfl, by rw [e9], by rw [e9]; exact hM⟩ dX11_take_35 (Nat.le_of_ble_eq_true rfl) (Nat.le_of_ble_eq_true rfl)
    · rw [hG] at hI
      refine W.eq (g2 := F0 mI 11 ls [.int 0]) rfl ?_
      refine lv_if_ne (tgt := 16) hx hb dX11_take_11 (by decide) (fun c_11 => absurd c_11 (by decide)) (fun _ => ?_)
      refine lv_iconst (v := -1) hx hb dX11_take_14 (by decide) ?_
      have e9 : sp_take A s i f = ((-1), A) := by
        simp only [sp_take, rfi, rfj, h_1, h_3, reduceIte, Bool.false_eq_true, not_true_eq_false, not_false_eq_true]
      exact g_iret hx hb hr hlocks hI ⟨_, rfl, by rw [e9], by rw [e9]; exact hM⟩ dX11_take_15 (Nat.le_of_ble_eq_true rfl) (Nat.le_of_ble_eq_true rfl)
  · rw [hG] at hI
    refine W.eq (g2 := F0 mI 4 ls [.int 0]) rfl ?_
    refine lv_if_eq (tgt := 14) hx hb dX11_take_4 (by decide) (fun _ => ?_) (fun c_12 => absurd c_12 (by decide))
    refine lv_iconst (v := -1) hx hb dX11_take_14 (by decide) ?_
    have e9 : sp_take A s i f = ((-1), A) := by
      simp only [sp_take, rfi, rfj, h_1, reduceIte, Bool.false_eq_true, not_true_eq_false, not_false_eq_true]
    exact g_iret hx hb hr hlocks hI ⟨_, rfl, by rw [e9], by rw [e9]; exact hM⟩ dX11_take_15 (Nat.le_of_ble_eq_true rfl) (Nat.le_of_ble_eq_true rfl)
set_option maxHeartbeats 4000000 in
set_option maxRecDepth 100000 in
theorem c_X11_honey (l : Launch) (E : gE) (b0 : Nat) (G : gG) (mo : Nat) (ma : Nat → Nat) (A : gA) (hM : gMod E mo ma A G) (nn : Nat) (hw : wfb A nn) (s i v : Int32) : gM l yX11_honey cX11_honey 6 (some .long) 5 0 0 E b0 G [.ref mo, .int s, .int i, .int v] (pL (fun v9 G1 => v9 = (sp_honey A s i v).1 ∧ gMod E mo ma (sp_honey A s i v).2 G1)) := by
  refine gM.of (by decide +kernel) (Nat.le_of_ble_eq_true rfl) ?_
  intro pP eP sP mI bP meth cP ls hx hb hr hml hown hlocks hnm hts hK hI hl
  have hl : lv_has ls 6 [(0, .ref mo), (1, .int s), (2, .int i), (3, .int v)] := hl
  have hown : sP.vm.findClass RX11 = some mI.cls := hown
  refine lv_iload_n hx hb dX11_honey_0 rfl (lv_at hl 1 rfl) ?_
  refine g_callS (own := RX11) (index := 64) (n := 1) hx hb hml hown hts (c_X11_isShelf l E b0 _ s) m_ml_X11_64 m_st_X11_isShelf m_in_X11 m_co_X11_isShelf (by decide +kernel) ⟨Nat.le_of_ble_eq_true rfl, Nat.le_of_ble_eq_true rfl⟩ ⟨Nat.le_of_ble_eq_true rfl, Nat.le_of_ble_eq_true rfl⟩ rfl hl.1 rfl (Nat.le_of_ble_eq_true rfl) dX11_honey_1 hK hI (fun r G1 H1 L1 hp hI => ?_)
  obtain ⟨v, rfl, hG, ⟨h_1, rfl⟩ | ⟨h_1, rfl⟩⟩ := hp
  · rw [hG] at hI
    refine W.eq (g2 := F0 mI 4 ls [.int 1]) rfl ?_
    refine lv_if_ne (tgt := 11) hx hb dX11_honey_4 (by decide) (fun _ => ?_) (fun c_2 => absurd c_2 (by decide))
    refine lv_aload_n hx hb dX11_honey_11 rfl (lv_at hl 0 rfl) ?_
    refine lv_iload_n hx hb dX11_honey_12 rfl (lv_at hl 1 rfl) ?_
    refine lv_iload_n hx hb dX11_honey_13 rfl (lv_at hl 2 rfl) ?_
    refine g_callV (own := RX11) (index := 85) (n := 2) hx hb hml hown hts (c_X11_wrongSlot l E b0 _ mo ma _ hM nn hw s i h_1) hM.1 rfl rfl m_ml_X11_85 m_im_X11_wrongSlot m_se_X11_X11_wrongSlot_X11_wrongSlot m_in_X11 m_co_X11_wrongSlot (by decide +kernel) ⟨Nat.le_of_ble_eq_true rfl, Nat.le_of_ble_eq_true rfl⟩ ⟨Nat.le_of_ble_eq_true rfl, Nat.le_of_ble_eq_true rfl⟩ rfl hl.1 rfl (Nat.le_of_ble_eq_true rfl) dX11_honey_14 hK hI (fun r G1 H1 L1 hp hI => ?_)
    obtain ⟨v, rfl, ev, hG⟩ := hp
    subst ev
    rw [hG] at hI
    refine W.eq (g2 := F0 mI 17 ls [.int (wSl A s i)]) rfl ?_
    refine lv_istore (lv' := [(4, .int (wSl A s i)), (0, .ref mo), (1, .int s), (2, .int i), (3, .int v)]) hx hb dX11_honey_17 hl (by decide) rfl (fun ls hl => ?_)
    refine lv_iload hx hb dX11_honey_19 (lv_at hl 0 rfl) ?_
    refine lv_if_ne (tgt := 43) hx hb dX11_honey_21 (by decide) (fun c_3 => ?_) (fun c_3 => ?_)
    · have q_4 := eqb_f c_3
      refine lv_iconst (v := 0) hx hb dX11_honey_43 (by decide) ?_
      refine lv_istore (lv' := [(5, .int 0), (4, .int (wSl A s i)), (0, .ref mo), (1, .int s), (2, .int i), (3, .int v)]) hx hb dX11_honey_44 hl (by decide) rfl (fun ls hl => ?_)
      refine lv_iload hx hb dX11_honey_46 (lv_at hl 0 rfl) ?_
      refine lv_if_ne (tgt := 67) hx hb dX11_honey_48 (by decide) (fun c_5 => absurd c_5 (by decide)) (fun _ => ?_)
      refine lv_aload_n hx hb dX11_honey_51 rfl (lv_at hl 2 rfl) ?_
      refine lv_iload hx hb dX11_honey_52 (lv_at hl 1 rfl) ?_
      refine lv_if_ne (tgt := 61) hx hb dX11_honey_54 (by decide) (fun _ => ?_) (fun c_6 => by first | exact absurd c_3 c_6 | exact absurd c_6 c_3 | (simp_all; done))
      refine lv_iload hx hb dX11_honey_61 (lv_at hl 1 rfl) ?_
      refine g_callV (own := RX11) (index := 90) (n := 1) hx hb hml hown hts (c_X11_refuseLong l E b0 _ mo ma _ hM (wSl A s i) wSl_in) hM.1 rfl rfl m_ml_X11_90 m_im_X11_refuseLong m_se_X11_X11_refuseLong_X11_refuseLong m_in_X11 m_co_X11_refuseLong (by decide +kernel) ⟨Nat.le_of_ble_eq_true rfl, Nat.le_of_ble_eq_true rfl⟩ ⟨Nat.le_of_ble_eq_true rfl, Nat.le_of_ble_eq_true rfl⟩ rfl hl.1 rfl (Nat.le_of_ble_eq_true rfl) dX11_honey_63 hK hI (fun r G1 H1 L1 hp hI => ?_)
      obtain ⟨v, rfl, ev, hM⟩ := hp
      subst ev
      refine W.eq (g2 := F0 mI 66 ls [.long (-9223372036854775708 + ((-10 - (wSl A s i)) : Int32).toInt64)]) rfl ?_
      have e9 : sp_honey A s i v = ((-9223372036854775708 + ((-10 - (wSl A s i)) : Int32).toInt64), (rfs A (wSl A s i))) := by
        simp only [sp_honey, rfi, rfj, h_1, q_4, reduceIte, Bool.false_eq_true, not_true_eq_false, not_false_eq_true]
      exact g_lret hx hb hr hlocks hI ⟨_, rfl, by rw [e9], by rw [e9]; exact hM⟩ dX11_honey_66 (Nat.le_of_ble_eq_true rfl) (Nat.le_of_ble_eq_true rfl)
    · have q_7 := eqb_t c_3
      refine lv_aload_n hx hb dX11_honey_24 rfl (lv_at hl 1 rfl) ?_
      refine x_get (index := 25) hx hb hts hown hK hI hM 6 (by decide) m_fl_X11_25 rfl dX11_honey_25 rfl ?_
      refine lv_bipush (v := 30) hx hb dX11_honey_28 (by decide) ?_
      refine lv_aload_n hx hb dX11_honey_30 rfl (lv_at hl 1 rfl) ?_
      refine x_get (index := 7) hx hb hts hown hK hI hM 0 (by decide) m_fl_X11_7 rfl dX11_honey_31 rfl ?_
      refine lv_iload_n hx hb dX11_honey_34 rfl (lv_at hl 2 rfl) ?_
      refine x_ld hx hb hK hI hM 0 (by decide) (sh_in h_1) dX11_honey_35 ?_
      refine lv_imul hx hb dX11_honey_36 ?_
      refine lv_iload_n hx hb dX11_honey_37 rfl (lv_at hl 3 rfl) ?_
      refine lv_iadd hx hb dX11_honey_38 ?_
      refine x_ld hx hb hK hI hM 6 (by decide) (hw.ri (sh_in h_1) c_3) dX11_honey_39 ?_
      refine lv_goto (tgt := 44) hx hb dX11_honey_40 (by decide) ?_
      refine lv_istore (lv' := [(5, .int (A 6 (ix ((30 * (A 0 (ix s))) + i)))), (4, .int (wSl A s i)), (0, .ref mo), (1, .int s), (2, .int i), (3, .int v)]) hx hb dX11_honey_44 hl (by decide) rfl (fun ls hl => ?_)
      refine lv_iload hx hb dX11_honey_46 (lv_at hl 0 rfl) ?_
      refine lv_if_ne (tgt := 67) hx hb dX11_honey_48 (by decide) (fun c_8 => ?_) (fun c_8 => ?_)
      · have q_9 := eqb_f c_8
        refine lv_aload_n hx hb dX11_honey_67 rfl (lv_at hl 2 rfl) ?_
        refine x_get (index := 16) hx hb hts hown hK hI hM 3 (by decide) m_fl_X11_16 rfl dX11_honey_68 rfl ?_
        refine lv_iload hx hb dX11_honey_71 (lv_at hl 0 rfl) ?_
        refine lv_dup2_11 hx hb dX11_honey_73 rfl rfl ?_
        refine x_ld hx hb hK hI hM 3 (by decide) (hw.rv (sh_in h_1) c_3) dX11_honey_74 ?_
        refine lv_iload_n hx hb dX11_honey_75 rfl (lv_at hl 5 rfl) ?_
        refine lv_iadd hx hb dX11_honey_76 ?_
        refine x_st hx hb hK hI hM 3 (by decide) (hw.rv (sh_in h_1) c_3) dX11_honey_77 (fun G1 H1 L1 hM hI => ?_)
        refine lv_aload_n hx hb dX11_honey_78 rfl (lv_at hl 2 rfl) ?_
        refine x_get (index := 16) hx hb hts hown hK hI hM 3 (by decide) m_fl_X11_16 rfl dX11_honey_79 rfl ?_
        refine lv_iload hx hb dX11_honey_82 (lv_at hl 0 rfl) ?_
        refine x_ld hx hb hK hI hM 3 (by decide) (hw.rv (sh_in h_1) c_3) dX11_honey_84 ?_
        refine lv_i2l hx hb dX11_honey_85 rfl ?_
        have e9 : sp_honey A s i v = (((((u2 A 3 (ix (A 6 (ix ((30 * (A 0 (ix s))) + i)))) ((A 3 (ix (A 6 (ix ((30 * (A 0 (ix s))) + i))))) + v)) 3 (ix (A 6 (ix ((30 * (A 0 (ix s))) + i))))) : Int32).toInt64), (u2 A 3 (ix (A 6 (ix ((30 * (A 0 (ix s))) + i)))) ((A 3 (ix (A 6 (ix ((30 * (A 0 (ix s))) + i))))) + v))) := by
          simp only [sp_honey, rfi, rfj, h_1, q_7, q_9, reduceIte, Bool.false_eq_true, not_true_eq_false, not_false_eq_true]
        exact g_lret hx hb hr hlocks hI ⟨_, rfl, by rw [e9], by rw [e9]; exact hM⟩ dX11_honey_86 (Nat.le_of_ble_eq_true rfl) (Nat.le_of_ble_eq_true rfl)
      · have q_10 := eqb_t c_8
        refine lv_aload_n hx hb dX11_honey_51 rfl (lv_at hl 2 rfl) ?_
        refine lv_iload hx hb dX11_honey_52 (lv_at hl 1 rfl) ?_
        refine lv_if_ne (tgt := 61) hx hb dX11_honey_54 (by decide) (fun c_11 => by first | exact absurd c_3 c_11 | exact absurd c_11 c_3 | (simp_all; done)) (fun _ => ?_)
        refine lv_iconst (v := 1) hx hb dX11_honey_57 (by decide) ?_
        refine lv_goto (tgt := 63) hx hb dX11_honey_58 (by decide) ?_
        refine g_callV (own := RX11) (index := 90) (n := 1) hx hb hml hown hts (c_X11_refuseLong l E b0 _ mo ma _ hM 1 (vp_in_iff.mpr (by decide))) hM.1 rfl rfl m_ml_X11_90 m_im_X11_refuseLong m_se_X11_X11_refuseLong_X11_refuseLong m_in_X11 m_co_X11_refuseLong (by decide +kernel) ⟨Nat.le_of_ble_eq_true rfl, Nat.le_of_ble_eq_true rfl⟩ ⟨Nat.le_of_ble_eq_true rfl, Nat.le_of_ble_eq_true rfl⟩ rfl hl.1 rfl (Nat.le_of_ble_eq_true rfl) dX11_honey_63 hK hI (fun r G1 H1 L1 hp hI => ?_)
        obtain ⟨v, rfl, ev, hM⟩ := hp
        subst ev
        refine W.eq (g2 := F0 mI 66 ls [.long (-9223372036854775708 + ((-10 - 1) : Int32).toInt64)]) rfl ?_
        have e9 : sp_honey A s i v = ((-9223372036854775708 + ((-10 - 1) : Int32).toInt64), (rfs A 1)) := by
          simp only [sp_honey, rfi, rfj, h_1, q_7, q_10, reduceIte, Bool.false_eq_true, not_true_eq_false, not_false_eq_true]
        exact g_lret hx hb hr hlocks hI ⟨_, rfl, by rw [e9], by rw [e9]; exact hM⟩ dX11_honey_66 (Nat.le_of_ble_eq_true rfl) (Nat.le_of_ble_eq_true rfl)
  · rw [hG] at hI
    refine W.eq (g2 := F0 mI 4 ls [.int 0]) rfl ?_
    refine lv_if_ne (tgt := 11) hx hb dX11_honey_4 (by decide) (fun c_12 => absurd c_12 (by decide)) (fun _ => ?_)
    refine lv_ldc2 hx hb hown (hts _ m_kl_X11_88) dX11_honey_7 ?_
    have e9 : sp_honey A s i v = ((-9223372036854775808), A) := by
      simp only [sp_honey, rfi, rfj, h_1, reduceIte, Bool.false_eq_true, not_true_eq_false, not_false_eq_true]
    exact g_lret hx hb hr hlocks hI ⟨_, rfl, by rw [e9], by rw [e9]; exact hM⟩ dX11_honey_10 (Nat.le_of_ble_eq_true rfl) (Nat.le_of_ble_eq_true rfl)
set_option maxHeartbeats 4000000 in
set_option maxRecDepth 100000 in
theorem c_X11_lay (l : Launch) (E : gE) (b0 : Nat) (G : gG) (mo : Nat) (ma : Nat → Nat) (A : gA) (hM : gMod E mo ma A G) (nn : Nat) (hw : wfb A nn) (s i n : Int32) : gM l yX11_lay cX11_lay 7 (some .long) 5 0 0 E b0 G [.ref mo, .int s, .int i, .int n] (pL (fun v9 G1 => v9 = (sp_lay A s i n).1 ∧ gMod E mo ma (sp_lay A s i n).2 G1)) := by
  refine gM.of (by decide +kernel) (Nat.le_of_ble_eq_true rfl) ?_
  intro pP eP sP mI bP meth cP ls hx hb hr hml hown hlocks hnm hts hK hI hl
  have hl : lv_has ls 7 [(0, .ref mo), (1, .int s), (2, .int i), (3, .int n)] := hl
  have hown : sP.vm.findClass RX11 = some mI.cls := hown
  refine lv_iload_n hx hb dX11_lay_0 rfl (lv_at hl 1 rfl) ?_
  refine g_callS (own := RX11) (index := 64) (n := 1) hx hb hml hown hts (c_X11_isShelf l E b0 _ s) m_ml_X11_64 m_st_X11_isShelf m_in_X11 m_co_X11_isShelf (by decide +kernel) ⟨Nat.le_of_ble_eq_true rfl, Nat.le_of_ble_eq_true rfl⟩ ⟨Nat.le_of_ble_eq_true rfl, Nat.le_of_ble_eq_true rfl⟩ rfl hl.1 rfl (Nat.le_of_ble_eq_true rfl) dX11_lay_1 hK hI (fun r G1 H1 L1 hp hI => ?_)
  obtain ⟨v, rfl, hG, ⟨h_1, rfl⟩ | ⟨h_1, rfl⟩⟩ := hp
  · rw [hG] at hI
    refine W.eq (g2 := F0 mI 4 ls [.int 1]) rfl ?_
    refine lv_if_ne (tgt := 11) hx hb dX11_lay_4 (by decide) (fun _ => ?_) (fun c_2 => absurd c_2 (by decide))
    refine lv_aload_n hx hb dX11_lay_11 rfl (lv_at hl 0 rfl) ?_
    refine lv_iload_n hx hb dX11_lay_12 rfl (lv_at hl 1 rfl) ?_
    refine lv_iload_n hx hb dX11_lay_13 rfl (lv_at hl 2 rfl) ?_
    refine g_callV (own := RX11) (index := 85) (n := 2) hx hb hml hown hts (c_X11_wrongSlot l E b0 _ mo ma _ hM nn hw s i h_1) hM.1 rfl rfl m_ml_X11_85 m_im_X11_wrongSlot m_se_X11_X11_wrongSlot_X11_wrongSlot m_in_X11 m_co_X11_wrongSlot (by decide +kernel) ⟨Nat.le_of_ble_eq_true rfl, Nat.le_of_ble_eq_true rfl⟩ ⟨Nat.le_of_ble_eq_true rfl, Nat.le_of_ble_eq_true rfl⟩ rfl hl.1 rfl (Nat.le_of_ble_eq_true rfl) dX11_lay_14 hK hI (fun r G1 H1 L1 hp hI => ?_)
    obtain ⟨v, rfl, ev, hG⟩ := hp
    subst ev
    rw [hG] at hI
    refine W.eq (g2 := F0 mI 17 ls [.int (wSl A s i)]) rfl ?_
    refine lv_istore (lv' := [(4, .int (wSl A s i)), (0, .ref mo), (1, .int s), (2, .int i), (3, .int n)]) hx hb dX11_lay_17 hl (by decide) rfl (fun ls hl => ?_)
    refine lv_iload hx hb dX11_lay_19 (lv_at hl 0 rfl) ?_
    refine lv_if_eq (tgt := 31) hx hb dX11_lay_21 (by decide) (fun c_3 => ?_) (fun c_3 => ?_)
    · have q_4 := eqb_t c_3
      refine lv_aload_n hx hb dX11_lay_31 rfl (lv_at hl 1 rfl) ?_
      refine x_get (index := 25) hx hb hts hown hK hI hM 6 (by decide) m_fl_X11_25 rfl dX11_lay_32 rfl ?_
      refine lv_bipush (v := 30) hx hb dX11_lay_35 (by decide) ?_
      refine lv_aload_n hx hb dX11_lay_37 rfl (lv_at hl 1 rfl) ?_
      refine x_get (index := 7) hx hb hts hown hK hI hM 0 (by decide) m_fl_X11_7 rfl dX11_lay_38 rfl ?_
      refine lv_iload_n hx hb dX11_lay_41 rfl (lv_at hl 2 rfl) ?_
      refine x_ld hx hb hK hI hM 0 (by decide) (sh_in h_1) dX11_lay_42 ?_
      refine lv_imul hx hb dX11_lay_43 ?_
      refine lv_iload_n hx hb dX11_lay_44 rfl (lv_at hl 3 rfl) ?_
      refine lv_iadd hx hb dX11_lay_45 ?_
      refine x_ld hx hb hK hI hM 6 (by decide) (hw.ri (sh_in h_1) c_3) dX11_lay_46 ?_
      refine lv_istore (lv' := [(5, .int (A 6 (ix ((30 * (A 0 (ix s))) + i)))), (4, .int (wSl A s i)), (0, .ref mo), (1, .int s), (2, .int i), (3, .int n)]) hx hb dX11_lay_47 hl (by decide) rfl (fun ls hl => ?_)
      refine lv_aload_n hx hb dX11_lay_49 rfl (lv_at hl 2 rfl) ?_
      refine x_get (index := 38) hx hb hts hown hK hI hM 10 (by decide) m_fl_X11_38 rfl dX11_lay_50 rfl ?_
      refine lv_aload_n hx hb dX11_lay_53 rfl (lv_at hl 2 rfl) ?_
      refine x_get (index := 7) hx hb hts hown hK hI hM 0 (by decide) m_fl_X11_7 rfl dX11_lay_54 rfl ?_
      refine lv_iload_n hx hb dX11_lay_57 rfl (lv_at hl 3 rfl) ?_
      refine x_ld hx hb hK hI hM 0 (by decide) (sh_in h_1) dX11_lay_58 ?_
      refine x_ld hx hb hK hI hM 10 (by decide) (hw.sh (sh_in h_1)) dX11_lay_59 ?_
      refine lv_istore (lv' := [(6, .int (A 10 (ix (A 0 (ix s))))), (5, .int (A 6 (ix ((30 * (A 0 (ix s))) + i)))), (4, .int (wSl A s i)), (0, .ref mo), (1, .int s), (2, .int i), (3, .int n)]) hx hb dX11_lay_60 hl (by decide) rfl (fun ls hl => ?_)
      refine lv_aload_n hx hb dX11_lay_62 rfl (lv_at hl 3 rfl) ?_
      refine lv_iload hx hb dX11_lay_63 (lv_at hl 1 rfl) ?_
      refine lv_iconst (v := 1) hx hb dX11_lay_65 (by decide) ?_
      refine lv_iconst (v := 1) hx hb dX11_lay_66 (by decide) ?_
      refine g_callV (own := RX11) (index := 76) (n := 3) hx hb hml hown hts (c_X11_fits l E b0 _ mo ma _ hM (A 6 (ix ((30 * (A 0 (ix s))) + i))) 1 1 (hw.rv (sh_in h_1) c_3)) hM.1 rfl rfl m_ml_X11_76 m_im_X11_fits m_se_X11_X11_fits_X11_fits m_in_X11 m_co_X11_fits (by decide +kernel) ⟨Nat.le_of_ble_eq_true rfl, Nat.le_of_ble_eq_true rfl⟩ ⟨Nat.le_of_ble_eq_true rfl, Nat.le_of_ble_eq_true rfl⟩ rfl hl.1 rfl (Nat.le_of_ble_eq_true rfl) dX11_lay_67 hK hI (fun r G1 H1 L1 hp hI => ?_)
      obtain ⟨v, rfl, hG, ⟨h_5, rfl⟩ | ⟨h_5, rfl⟩⟩ := hp
      · rw [hG] at hI
        refine W.eq (g2 := F0 mI 70 ls [.int 1]) rfl ?_
        refine lv_if_ne (tgt := 79) hx hb dX11_lay_70 (by decide) (fun _ => ?_) (fun c_6 => absurd c_6 (by decide))
        refine lv_iload hx hb dX11_lay_79 (lv_at hl 0 rfl) ?_
        refine lv_if_eq (tgt := 89) hx hb dX11_lay_81 (by decide) (fun c_7 => ?_) (fun c_7 => ?_)
        · have q_8 := eqb_t c_7
          refine lv_aload_n hx hb dX11_lay_89 rfl (lv_at hl 3 rfl) ?_
          refine lv_iconst (v := 1) hx hb dX11_lay_90 (by decide) ?_
          refine g_callV (own := RX11) (index := 90) (n := 1) hx hb hml hown hts (c_X11_refuseLong l E b0 _ mo ma _ hM 1 (vp_in_iff.mpr (by decide))) hM.1 rfl rfl m_ml_X11_90 m_im_X11_refuseLong m_se_X11_X11_refuseLong_X11_refuseLong m_in_X11 m_co_X11_refuseLong (by decide +kernel) ⟨Nat.le_of_ble_eq_true rfl, Nat.le_of_ble_eq_true rfl⟩ ⟨Nat.le_of_ble_eq_true rfl, Nat.le_of_ble_eq_true rfl⟩ rfl hl.1 rfl (Nat.le_of_ble_eq_true rfl) dX11_lay_91 hK hI (fun r G1 H1 L1 hp hI => ?_)
          obtain ⟨v, rfl, ev, hM⟩ := hp
          subst ev
          refine W.eq (g2 := F0 mI 94 ls [.long (-9223372036854775708 + ((-10 - 1) : Int32).toInt64)]) rfl ?_
          have e9 : sp_lay A s i n = ((-9223372036854775708 + ((-10 - 1) : Int32).toInt64), (rfs A 1)) := by
            simp only [sp_lay, rfi, rfj, ly1, ly2, h_1, q_4, h_5, q_8, reduceIte, Bool.false_eq_true, not_true_eq_false, not_false_eq_true]
          exact g_lret hx hb hr hlocks hI ⟨_, rfl, by rw [e9], by rw [e9]; exact hM⟩ dX11_lay_94 (Nat.le_of_ble_eq_true rfl) (Nat.le_of_ble_eq_true rfl)
        · have q_9 := eqb_f c_7
          refine lv_iload hx hb dX11_lay_84 (lv_at hl 1 rfl) ?_
          refine lv_if_ne (tgt := 95) hx hb dX11_lay_86 (by decide) (fun c_10 => ?_) (fun c_10 => ?_)
          · have q_11 := eqb_f c_10
            refine lv_aload_n hx hb dX11_lay_95 rfl (lv_at hl 3 rfl) ?_
            refine x_get (index := 19) hx hb hts hown hK hI hM 4 (by decide) m_fl_X11_19 rfl dX11_lay_96 rfl ?_
            refine lv_iload hx hb dX11_lay_99 (lv_at hl 1 rfl) ?_
            refine lv_dup2_11 hx hb dX11_lay_101 rfl rfl ?_
            refine x_ld hx hb hK hI hM 4 (by decide) (hw.rv (sh_in h_1) c_3) dX11_lay_102 ?_
            refine lv_iload_n hx hb dX11_lay_103 rfl (lv_at hl 6 rfl) ?_
            refine lv_aload_n hx hb dX11_lay_104 rfl (lv_at hl 3 rfl) ?_
            refine x_get (index := 16) hx hb hts hown hK hI hM 3 (by decide) m_fl_X11_16 rfl dX11_lay_105 rfl ?_
            refine lv_iload hx hb dX11_lay_108 (lv_at hl 0 rfl) ?_
            refine x_ld hx hb hK hI hM 3 (by decide) (hw.pt (sh_in h_1) 10 (by decide)) dX11_lay_110 ?_
            refine lv_imul hx hb dX11_lay_111 ?_
            refine lv_iadd hx hb dX11_lay_112 ?_
            refine x_st hx hb hK hI hM 4 (by decide) (hw.rv (sh_in h_1) c_3) dX11_lay_113 (fun G1 H1 L1 hM hI => ?_)
            refine lv_aload_n hx hb dX11_lay_114 rfl (lv_at hl 3 rfl) ?_
            refine x_get (index := 19) hx hb hts hown hK hI hM 4 (by decide) m_fl_X11_19 rfl dX11_lay_115 rfl ?_
            refine lv_iload hx hb dX11_lay_118 (lv_at hl 0 rfl) ?_
            refine lv_dup2_11 hx hb dX11_lay_120 rfl rfl ?_
            refine x_ld hx hb hK hI hM 4 (by decide) (hw.pt (sh_in h_1) 10 (by decide)) dX11_lay_121 ?_
            refine lv_iconst (v := 1) hx hb dX11_lay_122 (by decide) ?_
            refine lv_iadd hx hb dX11_lay_123 ?_
            refine x_st hx hb hK hI hM 4 (by decide) (hw.pt (sh_in h_1) 10 (by decide)) dX11_lay_124 (fun G1 H1 L1 hM hI => ?_)
            refine lv_aload_n hx hb dX11_lay_125 rfl (lv_at hl 3 rfl) ?_
            refine x_get (index := 19) hx hb hts hown hK hI hM 4 (by decide) m_fl_X11_19 rfl dX11_lay_126 rfl ?_
            refine lv_iload hx hb dX11_lay_129 (lv_at hl 1 rfl) ?_
            refine x_ld hx hb hK hI hM 4 (by decide) (hw.rv (sh_in h_1) c_3) dX11_lay_131 ?_
            refine lv_i2l hx hb dX11_lay_132 rfl ?_
            have e9 : sp_lay A s i n = (((((u2 (u2 A 4 (ix (A 6 (ix ((30 * (A 0 (ix s))) + i)))) ((A 4 (ix (A 6 (ix ((30 * (A 0 (ix s))) + i))))) + (n * (A 3 (ix (A 10 (ix (A 0 (ix s))))))))) 4 (ix (A 10 (ix (A 0 (ix s))))) (((u2 A 4 (ix (A 6 (ix ((30 * (A 0 (ix s))) + i)))) ((A 4 (ix (A 6 (ix ((30 * (A 0 (ix s))) + i))))) + (n * (A 3 (ix (A 10 (ix (A 0 (ix s))))))))) 4 (ix (A 10 (ix (A 0 (ix s)))))) + 1)) 4 (ix (A 6 (ix ((30 * (A 0 (ix s))) + i))))) : Int32).toInt64), (u2 (u2 A 4 (ix (A 6 (ix ((30 * (A 0 (ix s))) + i)))) ((A 4 (ix (A 6 (ix ((30 * (A 0 (ix s))) + i))))) + (n * (A 3 (ix (A 10 (ix (A 0 (ix s))))))))) 4 (ix (A 10 (ix (A 0 (ix s))))) (((u2 A 4 (ix (A 6 (ix ((30 * (A 0 (ix s))) + i)))) ((A 4 (ix (A 6 (ix ((30 * (A 0 (ix s))) + i))))) + (n * (A 3 (ix (A 10 (ix (A 0 (ix s))))))))) 4 (ix (A 10 (ix (A 0 (ix s)))))) + 1))) := by
              simp only [sp_lay, rfi, rfj, ly1, ly2, h_1, q_4, h_5, q_9, q_11, reduceIte, Bool.false_eq_true, not_true_eq_false, not_false_eq_true]
            exact g_lret hx hb hr hlocks hI ⟨_, rfl, by rw [e9], by rw [e9]; exact hM⟩ dX11_lay_133 (Nat.le_of_ble_eq_true rfl) (Nat.le_of_ble_eq_true rfl)
          · have q_12 := eqb_t c_10
            refine lv_aload_n hx hb dX11_lay_89 rfl (lv_at hl 3 rfl) ?_
            refine lv_iconst (v := 1) hx hb dX11_lay_90 (by decide) ?_
            refine g_callV (own := RX11) (index := 90) (n := 1) hx hb hml hown hts (c_X11_refuseLong l E b0 _ mo ma _ hM 1 (vp_in_iff.mpr (by decide))) hM.1 rfl rfl m_ml_X11_90 m_im_X11_refuseLong m_se_X11_X11_refuseLong_X11_refuseLong m_in_X11 m_co_X11_refuseLong (by decide +kernel) ⟨Nat.le_of_ble_eq_true rfl, Nat.le_of_ble_eq_true rfl⟩ ⟨Nat.le_of_ble_eq_true rfl, Nat.le_of_ble_eq_true rfl⟩ rfl hl.1 rfl (Nat.le_of_ble_eq_true rfl) dX11_lay_91 hK hI (fun r G1 H1 L1 hp hI => ?_)
            obtain ⟨v, rfl, ev, hM⟩ := hp
            subst ev
            refine W.eq (g2 := F0 mI 94 ls [.long (-9223372036854775708 + ((-10 - 1) : Int32).toInt64)]) rfl ?_
            have e9 : sp_lay A s i n = ((-9223372036854775708 + ((-10 - 1) : Int32).toInt64), (rfs A 1)) := by
              simp only [sp_lay, rfi, rfj, ly1, ly2, h_1, q_4, h_5, q_9, q_12, reduceIte, Bool.false_eq_true, not_true_eq_false, not_false_eq_true]
            exact g_lret hx hb hr hlocks hI ⟨_, rfl, by rw [e9], by rw [e9]; exact hM⟩ dX11_lay_94 (Nat.le_of_ble_eq_true rfl) (Nat.le_of_ble_eq_true rfl)
      · rw [hG] at hI
        refine W.eq (g2 := F0 mI 70 ls [.int 0]) rfl ?_
        refine lv_if_ne (tgt := 79) hx hb dX11_lay_70 (by decide) (fun c_13 => absurd c_13 (by decide)) (fun _ => ?_)
        refine lv_aload_n hx hb dX11_lay_73 rfl (lv_at hl 3 rfl) ?_
        refine lv_iconst (v := 5) hx hb dX11_lay_74 (by decide) ?_
        refine g_callV (own := RX11) (index := 90) (n := 1) hx hb hml hown hts (c_X11_refuseLong l E b0 _ mo ma _ hM 5 (vp_in_iff.mpr (by decide))) hM.1 rfl rfl m_ml_X11_90 m_im_X11_refuseLong m_se_X11_X11_refuseLong_X11_refuseLong m_in_X11 m_co_X11_refuseLong (by decide +kernel) ⟨Nat.le_of_ble_eq_true rfl, Nat.le_of_ble_eq_true rfl⟩ ⟨Nat.le_of_ble_eq_true rfl, Nat.le_of_ble_eq_true rfl⟩ rfl hl.1 rfl (Nat.le_of_ble_eq_true rfl) dX11_lay_75 hK hI (fun r G1 H1 L1 hp hI => ?_)
        obtain ⟨v, rfl, ev, hM⟩ := hp
        subst ev
        refine W.eq (g2 := F0 mI 78 ls [.long (-9223372036854775708 + ((-10 - 5) : Int32).toInt64)]) rfl ?_
        have e9 : sp_lay A s i n = ((-9223372036854775708 + ((-10 - 5) : Int32).toInt64), (rfs A 5)) := by
          simp only [sp_lay, rfi, rfj, ly1, ly2, h_1, q_4, h_5, reduceIte, Bool.false_eq_true, not_true_eq_false, not_false_eq_true]
        exact g_lret hx hb hr hlocks hI ⟨_, rfl, by rw [e9], by rw [e9]; exact hM⟩ dX11_lay_78 (Nat.le_of_ble_eq_true rfl) (Nat.le_of_ble_eq_true rfl)
    · have q_14 := eqb_f c_3
      refine lv_aload_n hx hb dX11_lay_24 rfl (lv_at hl 1 rfl) ?_
      refine lv_iload hx hb dX11_lay_25 (lv_at hl 0 rfl) ?_
      refine g_callV (own := RX11) (index := 90) (n := 1) hx hb hml hown hts (c_X11_refuseLong l E b0 _ mo ma _ hM (wSl A s i) wSl_in) hM.1 rfl rfl m_ml_X11_90 m_im_X11_refuseLong m_se_X11_X11_refuseLong_X11_refuseLong m_in_X11 m_co_X11_refuseLong (by decide +kernel) ⟨Nat.le_of_ble_eq_true rfl, Nat.le_of_ble_eq_true rfl⟩ ⟨Nat.le_of_ble_eq_true rfl, Nat.le_of_ble_eq_true rfl⟩ rfl hl.1 rfl (Nat.le_of_ble_eq_true rfl) dX11_lay_27 hK hI (fun r G1 H1 L1 hp hI => ?_)
      obtain ⟨v, rfl, ev, hM⟩ := hp
      subst ev
      refine W.eq (g2 := F0 mI 30 ls [.long (-9223372036854775708 + ((-10 - (wSl A s i)) : Int32).toInt64)]) rfl ?_
      have e9 : sp_lay A s i n = ((-9223372036854775708 + ((-10 - (wSl A s i)) : Int32).toInt64), (rfs A (wSl A s i))) := by
        simp only [sp_lay, rfi, rfj, ly1, ly2, h_1, q_14, reduceIte, Bool.false_eq_true, not_true_eq_false, not_false_eq_true]
      exact g_lret hx hb hr hlocks hI ⟨_, rfl, by rw [e9], by rw [e9]; exact hM⟩ dX11_lay_30 (Nat.le_of_ble_eq_true rfl) (Nat.le_of_ble_eq_true rfl)
  · rw [hG] at hI
    refine W.eq (g2 := F0 mI 4 ls [.int 0]) rfl ?_
    refine lv_if_ne (tgt := 11) hx hb dX11_lay_4 (by decide) (fun c_15 => absurd c_15 (by decide)) (fun _ => ?_)
    refine lv_ldc2 hx hb hown (hts _ m_kl_X11_88) dX11_lay_7 ?_
    have e9 : sp_lay A s i n = ((-9223372036854775808), A) := by
      simp only [sp_lay, rfi, rfj, ly1, ly2, h_1, reduceIte, Bool.false_eq_true, not_true_eq_false, not_false_eq_true]
    exact g_lret hx hb hr hlocks hI ⟨_, rfl, by rw [e9], by rw [e9]; exact hM⟩ dX11_lay_10 (Nat.le_of_ble_eq_true rfl) (Nat.le_of_ble_eq_true rfl)
set_option maxHeartbeats 4000000 in
set_option maxRecDepth 100000 in
theorem c_X11_cell (l : Launch) (E : gE) (b0 : Nat) (G : gG) (mo : Nat) (ma : Nat → Nat) (A : gA) (hM : gMod E mo ma A G) (nn : Nat) (hw : wfb A nn) (s a k v : Int32) : gM l yX11_cell cX11_cell 9 (some .long) 5 0 0 E b0 G [.ref mo, .int s, .int a, .int k, .int v] (pL (fun v9 G1 => v9 = (sp_cell A s a k v).1 ∧ gMod E mo ma (sp_cell A s a k v).2 G1)) := by
  refine gM.of (by decide +kernel) (Nat.le_of_ble_eq_true rfl) ?_
  intro pP eP sP mI bP meth cP ls hx hb hr hml hown hlocks hnm hts hK hI hl
  have hl : lv_has ls 9 [(0, .ref mo), (1, .int s), (2, .int a), (3, .int k), (4, .int v)] := hl
  have hown : sP.vm.findClass RX11 = some mI.cls := hown
  refine lv_iload_n hx hb dX11_cell_0 rfl (lv_at hl 1 rfl) ?_
  refine g_callS (own := RX11) (index := 64) (n := 1) hx hb hml hown hts (c_X11_isShelf l E b0 _ s) m_ml_X11_64 m_st_X11_isShelf m_in_X11 m_co_X11_isShelf (by decide +kernel) ⟨Nat.le_of_ble_eq_true rfl, Nat.le_of_ble_eq_true rfl⟩ ⟨Nat.le_of_ble_eq_true rfl, Nat.le_of_ble_eq_true rfl⟩ rfl hl.1 rfl (Nat.le_of_ble_eq_true rfl) dX11_cell_1 hK hI (fun r G1 H1 L1 hp hI => ?_)
  obtain ⟨v, rfl, hG, ⟨h_1, rfl⟩ | ⟨h_1, rfl⟩⟩ := hp
  · rw [hG] at hI
    refine W.eq (g2 := F0 mI 4 ls [.int 1]) rfl ?_
    refine lv_if_ne (tgt := 11) hx hb dX11_cell_4 (by decide) (fun _ => ?_) (fun c_2 => absurd c_2 (by decide))
    refine lv_aload_n hx hb dX11_cell_11 rfl (lv_at hl 0 rfl) ?_
    refine lv_iload_n hx hb dX11_cell_12 rfl (lv_at hl 1 rfl) ?_
    refine g_callV (own := RX11) (index := 79) (n := 1) hx hb hml hown hts (c_X11_wrongHive l E b0 _ mo ma _ hM nn hw s h_1) hM.1 rfl rfl m_ml_X11_79 m_im_X11_wrongHive m_se_X11_X11_wrongHive_X11_wrongHive m_in_X11 m_co_X11_wrongHive (by decide +kernel) ⟨Nat.le_of_ble_eq_true rfl, Nat.le_of_ble_eq_true rfl⟩ ⟨Nat.le_of_ble_eq_true rfl, Nat.le_of_ble_eq_true rfl⟩ rfl hl.1 rfl (Nat.le_of_ble_eq_true rfl) dX11_cell_13 hK hI (fun r G1 H1 L1 hp hI => ?_)
    obtain ⟨v, rfl, ev, hG⟩ := hp
    subst ev
    rw [hG] at hI
    refine W.eq (g2 := F0 mI 16 ls [.int (wHv A s)]) rfl ?_
    refine lv_istore (lv' := [(5, .int (wHv A s)), (0, .ref mo), (1, .int s), (2, .int a), (3, .int k), (4, .int v)]) hx hb dX11_cell_16 hl (by decide) rfl (fun ls hl => ?_)
    refine lv_iload hx hb dX11_cell_18 (lv_at hl 0 rfl) ?_
    refine lv_if_eq (tgt := 30) hx hb dX11_cell_20 (by decide) (fun c_3 => ?_) (fun c_3 => ?_)
    · have q_4 := eqb_t c_3
      refine lv_aload_n hx hb dX11_cell_30 rfl (lv_at hl 1 rfl) ?_
      refine x_get (index := 7) hx hb hts hown hK hI hM 0 (by decide) m_fl_X11_7 rfl dX11_cell_31 rfl ?_
      refine lv_iload_n hx hb dX11_cell_34 rfl (lv_at hl 2 rfl) ?_
      refine x_ld hx hb hK hI hM 0 (by decide) (sh_in h_1) dX11_cell_35 ?_
      refine lv_istore (lv' := [(6, .int (A 0 (ix s))), (5, .int (wHv A s)), (0, .ref mo), (1, .int s), (2, .int a), (3, .int k), (4, .int v)]) hx hb dX11_cell_36 hl (by decide) rfl (fun ls hl => ?_)
      refine lv_aload_n hx hb dX11_cell_38 rfl (lv_at hl 2 rfl) ?_
      refine x_get (index := 28) hx hb hts hown hK hI hM 7 (by decide) m_fl_X11_28 rfl dX11_cell_39 rfl ?_
      refine lv_iload hx hb dX11_cell_42 (lv_at hl 0 rfl) ?_
      refine x_ld hx hb hK hI hM 7 (by decide) (hw.sh (sh_in h_1)) dX11_cell_44 ?_
      refine lv_if_ge (tgt := 54) hx hb dX11_cell_45 (by decide) (fun c_5 => ?_) (fun c_5 => ?_)
      · have c_5 := Int32.not_lt.mpr c_5
        refine lv_iload_n hx hb dX11_cell_54 rfl (lv_at hl 4 rfl) ?_
        refine lv_iconst (v := 0) hx hb dX11_cell_55 (by decide) ?_
        refine lv_aload_n hx hb dX11_cell_56 rfl (lv_at hl 2 rfl) ?_
        refine x_get (index := 28) hx hb hts hown hK hI hM 7 (by decide) m_fl_X11_28 rfl dX11_cell_57 rfl ?_
        refine lv_iload hx hb dX11_cell_60 (lv_at hl 0 rfl) ?_
        refine x_ld hx hb hK hI hM 7 (by decide) (hw.sh (sh_in h_1)) dX11_cell_62 ?_
        refine lv_iconst (v := 1) hx hb dX11_cell_63 (by decide) ?_
        refine lv_isub hx hb dX11_cell_64 ?_
        refine g_callS (own := RX11) (index := 50) (n := 3) hx hb hml hown hts (c_X11_in l E b0 _ a 0 ((A 7 (ix (A 0 (ix s)))) - 1)) m_ml_X11_50 m_st_X11_in m_in_X11 m_co_X11_in (by decide +kernel) ⟨Nat.le_of_ble_eq_true rfl, Nat.le_of_ble_eq_true rfl⟩ ⟨Nat.le_of_ble_eq_true rfl, Nat.le_of_ble_eq_true rfl⟩ rfl hl.1 rfl (Nat.le_of_ble_eq_true rfl) dX11_cell_65 hK hI (fun r G1 H1 L1 hp hI => ?_)
        obtain ⟨v, rfl, hG, ⟨h_6, rfl⟩ | ⟨h_6, rfl⟩⟩ := hp
        · rw [hG] at hI
          refine W.eq (g2 := F0 mI 68 ls [.int 1]) rfl ?_
          refine lv_if_eq (tgt := 88) hx hb dX11_cell_68 (by decide) (fun c_7 => absurd c_7 (by decide)) (fun _ => ?_)
          refine lv_iload_n hx hb dX11_cell_71 rfl (lv_at hl 5 rfl) ?_
          refine lv_iconst (v := 0) hx hb dX11_cell_72 (by decide) ?_
          refine lv_aload_n hx hb dX11_cell_73 rfl (lv_at hl 2 rfl) ?_
          refine x_get (index := 31) hx hb hts hown hK hI hM 8 (by decide) m_fl_X11_31 rfl dX11_cell_74 rfl ?_
          refine lv_iload hx hb dX11_cell_77 (lv_at hl 0 rfl) ?_
          refine x_ld hx hb hK hI hM 8 (by decide) (hw.sh (sh_in h_1)) dX11_cell_79 ?_
          refine lv_iconst (v := 1) hx hb dX11_cell_80 (by decide) ?_
          refine lv_isub hx hb dX11_cell_81 ?_
          refine g_callS (own := RX11) (index := 50) (n := 3) hx hb hml hown hts (c_X11_in l E b0 _ k 0 ((A 8 (ix (A 0 (ix s)))) - 1)) m_ml_X11_50 m_st_X11_in m_in_X11 m_co_X11_in (by decide +kernel) ⟨Nat.le_of_ble_eq_true rfl, Nat.le_of_ble_eq_true rfl⟩ ⟨Nat.le_of_ble_eq_true rfl, Nat.le_of_ble_eq_true rfl⟩ rfl hl.1 rfl (Nat.le_of_ble_eq_true rfl) dX11_cell_82 hK hI (fun r G1 H1 L1 hp hI => ?_)
          obtain ⟨v, rfl, hG, ⟨h_8, rfl⟩ | ⟨h_8, rfl⟩⟩ := hp
          · rw [hG] at hI
            refine W.eq (g2 := F0 mI 85 ls [.int 1]) rfl ?_
            refine lv_if_ne (tgt := 94) hx hb dX11_cell_85 (by decide) (fun _ => ?_) (fun c_9 => absurd c_9 (by decide))
            refine lv_sipush (v := 144) hx hb dX11_cell_94 (by decide) ?_
            refine lv_iload hx hb dX11_cell_97 (lv_at hl 0 rfl) ?_
            refine lv_imul hx hb dX11_cell_99 ?_
            refine lv_bipush (v := 12) hx hb dX11_cell_100 (by decide) ?_
            refine lv_iload_n hx hb dX11_cell_102 rfl (lv_at hl 4 rfl) ?_
            refine lv_imul hx hb dX11_cell_103 ?_
            refine lv_iadd hx hb dX11_cell_104 ?_
            refine lv_iload_n hx hb dX11_cell_105 rfl (lv_at hl 5 rfl) ?_
            refine lv_iadd hx hb dX11_cell_106 ?_
            refine lv_istore (lv' := [(7, .int (((144 * (A 0 (ix s))) + (12 * a)) + k)), (6, .int (A 0 (ix s))), (5, .int (wHv A s)), (0, .ref mo), (1, .int s), (2, .int a), (3, .int k), (4, .int v)]) hx hb dX11_cell_107 hl (by decide) rfl (fun ls hl => ?_)
            refine lv_aload_n hx hb dX11_cell_109 rfl (lv_at hl 3 rfl) ?_
            refine x_get (index := 35) hx hb hts hown hK hI hM 9 (by decide) m_fl_X11_35 rfl dX11_cell_110 rfl ?_
            refine lv_iload hx hb dX11_cell_113 (lv_at hl 0 rfl) ?_
            refine x_ld hx hb hK hI hM 9 (by decide) (hw.cx (sh_in h_1) h_6 h_8 c_5) dX11_cell_115 ?_
            refine lv_istore (lv' := [(8, .int (A 9 (ix (((144 * (A 0 (ix s))) + (12 * a)) + k)))), (7, .int (((144 * (A 0 (ix s))) + (12 * a)) + k)), (6, .int (A 0 (ix s))), (5, .int (wHv A s)), (0, .ref mo), (1, .int s), (2, .int a), (3, .int k), (4, .int v)]) hx hb dX11_cell_116 hl (by decide) rfl (fun ls hl => ?_)
            refine lv_aload_n hx hb dX11_cell_118 rfl (lv_at hl 4 rfl) ?_
            refine x_get (index := 35) hx hb hts hown hK hI hM 9 (by decide) m_fl_X11_35 rfl dX11_cell_119 rfl ?_
            refine lv_iload hx hb dX11_cell_122 (lv_at hl 1 rfl) ?_
            refine lv_iload hx hb dX11_cell_124 (lv_at hl 8 rfl) ?_
            refine x_st hx hb hK hI hM 9 (by decide) (hw.cx (sh_in h_1) h_6 h_8 c_5) dX11_cell_126 (fun G1 H1 L1 hM hI => ?_)
            refine lv_iload hx hb dX11_cell_127 (lv_at hl 0 rfl) ?_
            refine lv_i2l hx hb dX11_cell_129 rfl ?_
            have e9 : sp_cell A s a k v = ((((A 9 (ix (((144 * (A 0 (ix s))) + (12 * a)) + k))) : Int32).toInt64), (u2 A 9 (ix (((144 * (A 0 (ix s))) + (12 * a)) + k)) v)) := by
              simp only [sp_cell, rfi, rfj, h_1, q_4, c_5, h_6, h_8, reduceIte, Bool.false_eq_true, not_true_eq_false, not_false_eq_true]
            exact g_lret hx hb hr hlocks hI ⟨_, rfl, by rw [e9], by rw [e9]; exact hM⟩ dX11_cell_130 (Nat.le_of_ble_eq_true rfl) (Nat.le_of_ble_eq_true rfl)
          · rw [hG] at hI
            refine W.eq (g2 := F0 mI 85 ls [.int 0]) rfl ?_
            refine lv_if_ne (tgt := 94) hx hb dX11_cell_85 (by decide) (fun c_10 => absurd c_10 (by decide)) (fun _ => ?_)
            refine lv_aload_n hx hb dX11_cell_88 rfl (lv_at hl 2 rfl) ?_
            refine lv_iconst (v := 3) hx hb dX11_cell_89 (by decide) ?_
            refine g_callV (own := RX11) (index := 90) (n := 1) hx hb hml hown hts (c_X11_refuseLong l E b0 _ mo ma _ hM 3 (vp_in_iff.mpr (by decide))) hM.1 rfl rfl m_ml_X11_90 m_im_X11_refuseLong m_se_X11_X11_refuseLong_X11_refuseLong m_in_X11 m_co_X11_refuseLong (by decide +kernel) ⟨Nat.le_of_ble_eq_true rfl, Nat.le_of_ble_eq_true rfl⟩ ⟨Nat.le_of_ble_eq_true rfl, Nat.le_of_ble_eq_true rfl⟩ rfl hl.1 rfl (Nat.le_of_ble_eq_true rfl) dX11_cell_90 hK hI (fun r G1 H1 L1 hp hI => ?_)
            obtain ⟨v, rfl, ev, hM⟩ := hp
            subst ev
            refine W.eq (g2 := F0 mI 93 ls [.long (-9223372036854775708 + ((-10 - 3) : Int32).toInt64)]) rfl ?_
            have e9 : sp_cell A s a k v = ((-9223372036854775708 + ((-10 - 3) : Int32).toInt64), (rfs A 3)) := by
              simp only [sp_cell, rfi, rfj, h_1, q_4, c_5, h_6, h_8, reduceIte, Bool.false_eq_true, not_true_eq_false, not_false_eq_true]
            exact g_lret hx hb hr hlocks hI ⟨_, rfl, by rw [e9], by rw [e9]; exact hM⟩ dX11_cell_93 (Nat.le_of_ble_eq_true rfl) (Nat.le_of_ble_eq_true rfl)
        · rw [hG] at hI
          refine W.eq (g2 := F0 mI 68 ls [.int 0]) rfl ?_
          refine lv_if_eq (tgt := 88) hx hb dX11_cell_68 (by decide) (fun _ => ?_) (fun c_11 => absurd c_11 (by decide))
          refine lv_aload_n hx hb dX11_cell_88 rfl (lv_at hl 2 rfl) ?_
          refine lv_iconst (v := 3) hx hb dX11_cell_89 (by decide) ?_
          refine g_callV (own := RX11) (index := 90) (n := 1) hx hb hml hown hts (c_X11_refuseLong l E b0 _ mo ma _ hM 3 (vp_in_iff.mpr (by decide))) hM.1 rfl rfl m_ml_X11_90 m_im_X11_refuseLong m_se_X11_X11_refuseLong_X11_refuseLong m_in_X11 m_co_X11_refuseLong (by decide +kernel) ⟨Nat.le_of_ble_eq_true rfl, Nat.le_of_ble_eq_true rfl⟩ ⟨Nat.le_of_ble_eq_true rfl, Nat.le_of_ble_eq_true rfl⟩ rfl hl.1 rfl (Nat.le_of_ble_eq_true rfl) dX11_cell_90 hK hI (fun r G1 H1 L1 hp hI => ?_)
          obtain ⟨v, rfl, ev, hM⟩ := hp
          subst ev
          refine W.eq (g2 := F0 mI 93 ls [.long (-9223372036854775708 + ((-10 - 3) : Int32).toInt64)]) rfl ?_
          have e9 : sp_cell A s a k v = ((-9223372036854775708 + ((-10 - 3) : Int32).toInt64), (rfs A 3)) := by
            simp only [sp_cell, rfi, rfj, h_1, q_4, c_5, h_6, reduceIte, Bool.false_eq_true, not_true_eq_false, not_false_eq_true]
          exact g_lret hx hb hr hlocks hI ⟨_, rfl, by rw [e9], by rw [e9]; exact hM⟩ dX11_cell_93 (Nat.le_of_ble_eq_true rfl) (Nat.le_of_ble_eq_true rfl)
      · have c_5 := Int32.not_le.mp c_5
        refine lv_aload_n hx hb dX11_cell_48 rfl (lv_at hl 2 rfl) ?_
        refine lv_iconst (v := 1) hx hb dX11_cell_49 (by decide) ?_
        refine g_callV (own := RX11) (index := 90) (n := 1) hx hb hml hown hts (c_X11_refuseLong l E b0 _ mo ma _ hM 1 (vp_in_iff.mpr (by decide))) hM.1 rfl rfl m_ml_X11_90 m_im_X11_refuseLong m_se_X11_X11_refuseLong_X11_refuseLong m_in_X11 m_co_X11_refuseLong (by decide +kernel) ⟨Nat.le_of_ble_eq_true rfl, Nat.le_of_ble_eq_true rfl⟩ ⟨Nat.le_of_ble_eq_true rfl, Nat.le_of_ble_eq_true rfl⟩ rfl hl.1 rfl (Nat.le_of_ble_eq_true rfl) dX11_cell_50 hK hI (fun r G1 H1 L1 hp hI => ?_)
        obtain ⟨v, rfl, ev, hM⟩ := hp
        subst ev
        refine W.eq (g2 := F0 mI 53 ls [.long (-9223372036854775708 + ((-10 - 1) : Int32).toInt64)]) rfl ?_
        have e9 : sp_cell A s a k v = ((-9223372036854775708 + ((-10 - 1) : Int32).toInt64), (rfs A 1)) := by
          simp only [sp_cell, rfi, rfj, h_1, q_4, c_5, reduceIte, Bool.false_eq_true, not_true_eq_false, not_false_eq_true]
        exact g_lret hx hb hr hlocks hI ⟨_, rfl, by rw [e9], by rw [e9]; exact hM⟩ dX11_cell_53 (Nat.le_of_ble_eq_true rfl) (Nat.le_of_ble_eq_true rfl)
    · have q_12 := eqb_f c_3
      refine lv_aload_n hx hb dX11_cell_23 rfl (lv_at hl 1 rfl) ?_
      refine lv_iload hx hb dX11_cell_24 (lv_at hl 0 rfl) ?_
      refine g_callV (own := RX11) (index := 90) (n := 1) hx hb hml hown hts (c_X11_refuseLong l E b0 _ mo ma _ hM (wHv A s) wHv_in) hM.1 rfl rfl m_ml_X11_90 m_im_X11_refuseLong m_se_X11_X11_refuseLong_X11_refuseLong m_in_X11 m_co_X11_refuseLong (by decide +kernel) ⟨Nat.le_of_ble_eq_true rfl, Nat.le_of_ble_eq_true rfl⟩ ⟨Nat.le_of_ble_eq_true rfl, Nat.le_of_ble_eq_true rfl⟩ rfl hl.1 rfl (Nat.le_of_ble_eq_true rfl) dX11_cell_26 hK hI (fun r G1 H1 L1 hp hI => ?_)
      obtain ⟨v, rfl, ev, hM⟩ := hp
      subst ev
      refine W.eq (g2 := F0 mI 29 ls [.long (-9223372036854775708 + ((-10 - (wHv A s)) : Int32).toInt64)]) rfl ?_
      have e9 : sp_cell A s a k v = ((-9223372036854775708 + ((-10 - (wHv A s)) : Int32).toInt64), (rfs A (wHv A s))) := by
        simp only [sp_cell, rfi, rfj, h_1, q_12, reduceIte, Bool.false_eq_true, not_true_eq_false, not_false_eq_true]
      exact g_lret hx hb hr hlocks hI ⟨_, rfl, by rw [e9], by rw [e9]; exact hM⟩ dX11_cell_29 (Nat.le_of_ble_eq_true rfl) (Nat.le_of_ble_eq_true rfl)
  · rw [hG] at hI
    refine W.eq (g2 := F0 mI 4 ls [.int 0]) rfl ?_
    refine lv_if_ne (tgt := 11) hx hb dX11_cell_4 (by decide) (fun c_13 => absurd c_13 (by decide)) (fun _ => ?_)
    refine lv_ldc2 hx hb hown (hts _ m_kl_X11_88) dX11_cell_7 ?_
    have e9 : sp_cell A s a k v = ((-9223372036854775808), A) := by
      simp only [sp_cell, rfi, rfj, h_1, reduceIte, Bool.false_eq_true, not_true_eq_false, not_false_eq_true]
    exact g_lret hx hb hr hlocks hI ⟨_, rfl, by rw [e9], by rw [e9]; exact hM⟩ dX11_cell_10 (Nat.le_of_ble_eq_true rfl) (Nat.le_of_ble_eq_true rfl)
set_option maxHeartbeats 4000000 in
set_option maxRecDepth 100000 in
theorem c_X11_sound (l : Launch) (E : gE) (b0 : Nat) (G : gG) (mo : Nat) (ma : Nat → Nat) (A : gA) (hM : gMod E mo ma A G) (nn : Nat) (hw : wfb A nn) (s : Int32) : gM l yX11_sound cX11_sound 4 (some .int) 5 0 0 E b0 G [.ref mo, .int s] (pI (fun v9 G1 => v9 = (sp_sound A s).1 ∧ gMod E mo ma (sp_sound A s).2 G1)) := by
  refine gM.of (by decide +kernel) (Nat.le_of_ble_eq_true rfl) ?_
  intro pP eP sP mI bP meth cP ls hx hb hr hml hown hlocks hnm hts hK hI hl
  have hl : lv_has ls 4 [(0, .ref mo), (1, .int s)] := hl
  have hown : sP.vm.findClass RX11 = some mI.cls := hown
  refine lv_iload_n hx hb dX11_sound_0 rfl (lv_at hl 1 rfl) ?_
  refine g_callS (own := RX11) (index := 64) (n := 1) hx hb hml hown hts (c_X11_isShelf l E b0 _ s) m_ml_X11_64 m_st_X11_isShelf m_in_X11 m_co_X11_isShelf (by decide +kernel) ⟨Nat.le_of_ble_eq_true rfl, Nat.le_of_ble_eq_true rfl⟩ ⟨Nat.le_of_ble_eq_true rfl, Nat.le_of_ble_eq_true rfl⟩ rfl hl.1 rfl (Nat.le_of_ble_eq_true rfl) dX11_sound_1 hK hI (fun r G1 H1 L1 hp hI => ?_)
  obtain ⟨v, rfl, hG, ⟨h_1, rfl⟩ | ⟨h_1, rfl⟩⟩ := hp
  · rw [hG] at hI
    refine W.eq (g2 := F0 mI 4 ls [.int 1]) rfl ?_
    refine lv_if_ne (tgt := 9) hx hb dX11_sound_4 (by decide) (fun _ => ?_) (fun c_2 => absurd c_2 (by decide))
    refine lv_aload_n hx hb dX11_sound_9 rfl (lv_at hl 0 rfl) ?_
    refine lv_iload_n hx hb dX11_sound_10 rfl (lv_at hl 1 rfl) ?_
    refine g_callV (own := RX11) (index := 79) (n := 1) hx hb hml hown hts (c_X11_wrongHive l E b0 _ mo ma _ hM nn hw s h_1) hM.1 rfl rfl m_ml_X11_79 m_im_X11_wrongHive m_se_X11_X11_wrongHive_X11_wrongHive m_in_X11 m_co_X11_wrongHive (by decide +kernel) ⟨Nat.le_of_ble_eq_true rfl, Nat.le_of_ble_eq_true rfl⟩ ⟨Nat.le_of_ble_eq_true rfl, Nat.le_of_ble_eq_true rfl⟩ rfl hl.1 rfl (Nat.le_of_ble_eq_true rfl) dX11_sound_11 hK hI (fun r G1 H1 L1 hp hI => ?_)
    obtain ⟨v, rfl, ev, hG⟩ := hp
    subst ev
    rw [hG] at hI
    refine W.eq (g2 := F0 mI 14 ls [.int (wHv A s)]) rfl ?_
    refine lv_istore_n (lv' := [(2, .int (wHv A s)), (0, .ref mo), (1, .int s)]) hx hb dX11_sound_14 rfl hl (by decide) rfl (fun ls hl => ?_)
    refine lv_iload_n hx hb dX11_sound_15 rfl (lv_at hl 0 rfl) ?_
    refine lv_if_eq (tgt := 25) hx hb dX11_sound_16 (by decide) (fun c_3 => ?_) (fun c_3 => ?_)
    · have q_4 := eqb_t c_3
      refine lv_aload_n hx hb dX11_sound_25 rfl (lv_at hl 1 rfl) ?_
      refine x_get (index := 44) hx hb hts hown hK hI hM 12 (by decide) m_fl_X11_44 rfl dX11_sound_26 rfl ?_
      refine lv_aload_n hx hb dX11_sound_29 rfl (lv_at hl 1 rfl) ?_
      refine x_get (index := 7) hx hb hts hown hK hI hM 0 (by decide) m_fl_X11_7 rfl dX11_sound_30 rfl ?_
      refine lv_iload_n hx hb dX11_sound_33 rfl (lv_at hl 2 rfl) ?_
      refine x_ld hx hb hK hI hM 0 (by decide) (sh_in h_1) dX11_sound_34 ?_
      refine x_ld hx hb hK hI hM 12 (by decide) (hw.sh (sh_in h_1)) dX11_sound_35 ?_
      refine lv_istore_n (lv' := [(3, .int (A 12 (ix (A 0 (ix s))))), (2, .int (wHv A s)), (0, .ref mo), (1, .int s)]) hx hb dX11_sound_36 rfl hl (by decide) rfl (fun ls hl => ?_)
      refine lv_iload_n hx hb dX11_sound_37 rfl (lv_at hl 0 rfl) ?_
      refine lv_if_ne (tgt := 47) hx hb dX11_sound_38 (by decide) (fun c_5 => ?_) (fun c_5 => ?_)
      · have q_6 := eqb_f c_5
        refine lv_aload_n hx hb dX11_sound_47 rfl (lv_at hl 2 rfl) ?_
        refine lv_aload_n hx hb dX11_sound_48 rfl (lv_at hl 2 rfl) ?_
        refine x_get (index := 16) hx hb hts hown hK hI hM 3 (by decide) m_fl_X11_16 rfl dX11_sound_49 rfl ?_
        refine lv_iload_n hx hb dX11_sound_52 rfl (lv_at hl 0 rfl) ?_
        refine x_ld hx hb hK hI hM 3 (by decide) (hw.pt (sh_in h_1) 12 (by decide)) dX11_sound_53 ?_
        refine x_put (index := 97) hx hb hts hown hK hI hM 14 (by decide) m_fl_X11_97 dX11_sound_54 rfl rfl rfl (by decide) (fun G1 H1 L1 hM hI => ?_)
        refine lv_aload_n hx hb dX11_sound_57 rfl (lv_at hl 2 rfl) ?_
        refine lv_bipush (v := 6) hx hb dX11_sound_58 (by decide) ?_
        refine g_callV (own := RX11) (index := 56) (n := 1) hx hb hml hown hts (c_X11_refuse l E b0 _ mo ma _ hM 6 (vp_in_iff.mpr (by decide))) hM.1 rfl rfl m_ml_X11_56 m_im_X11_refuse m_se_X11_X11_refuse_X11_refuse m_in_X11 m_co_X11_refuse (by decide +kernel) ⟨Nat.le_of_ble_eq_true rfl, Nat.le_of_ble_eq_true rfl⟩ ⟨Nat.le_of_ble_eq_true rfl, Nat.le_of_ble_eq_true rfl⟩ rfl hl.1 rfl (Nat.le_of_ble_eq_true rfl) dX11_sound_60 hK hI (fun r G1 H1 L1 hp hI => ?_)
        obtain ⟨v, rfl, ev, hM⟩ := hp
        subst ev
        refine W.eq (g2 := F0 mI 63 ls [.int (-10 - 6)]) rfl ?_
        have e9 : sp_sound A s = ((-10 - 6), (rfs (u2 A 14 0 (A 3 (ix (A 12 (ix (A 0 (ix s))))))) 6)) := by
          simp only [sp_sound, rfi, rfj, h_1, q_4, q_6, reduceIte, Bool.false_eq_true, not_true_eq_false, not_false_eq_true]
        exact g_iret hx hb hr hlocks hI ⟨_, rfl, by rw [e9], by rw [e9]; exact hM⟩ dX11_sound_63 (Nat.le_of_ble_eq_true rfl) (Nat.le_of_ble_eq_true rfl)
      · have q_7 := eqb_t c_5
        refine lv_aload_n hx hb dX11_sound_41 rfl (lv_at hl 2 rfl) ?_
        refine lv_iconst (v := 1) hx hb dX11_sound_42 (by decide) ?_
        refine g_callV (own := RX11) (index := 56) (n := 1) hx hb hml hown hts (c_X11_refuse l E b0 _ mo ma _ hM 1 (vp_in_iff.mpr (by decide))) hM.1 rfl rfl m_ml_X11_56 m_im_X11_refuse m_se_X11_X11_refuse_X11_refuse m_in_X11 m_co_X11_refuse (by decide +kernel) ⟨Nat.le_of_ble_eq_true rfl, Nat.le_of_ble_eq_true rfl⟩ ⟨Nat.le_of_ble_eq_true rfl, Nat.le_of_ble_eq_true rfl⟩ rfl hl.1 rfl (Nat.le_of_ble_eq_true rfl) dX11_sound_43 hK hI (fun r G1 H1 L1 hp hI => ?_)
        obtain ⟨v, rfl, ev, hM⟩ := hp
        subst ev
        refine W.eq (g2 := F0 mI 46 ls [.int (-10 - 1)]) rfl ?_
        have e9 : sp_sound A s = ((-10 - 1), (rfs A 1)) := by
          simp only [sp_sound, rfi, rfj, h_1, q_4, q_7, reduceIte, Bool.false_eq_true, not_true_eq_false, not_false_eq_true]
        exact g_iret hx hb hr hlocks hI ⟨_, rfl, by rw [e9], by rw [e9]; exact hM⟩ dX11_sound_46 (Nat.le_of_ble_eq_true rfl) (Nat.le_of_ble_eq_true rfl)
    · have q_8 := eqb_f c_3
      refine lv_aload_n hx hb dX11_sound_19 rfl (lv_at hl 1 rfl) ?_
      refine lv_iload_n hx hb dX11_sound_20 rfl (lv_at hl 0 rfl) ?_
      refine g_callV (own := RX11) (index := 56) (n := 1) hx hb hml hown hts (c_X11_refuse l E b0 _ mo ma _ hM (wHv A s) wHv_in) hM.1 rfl rfl m_ml_X11_56 m_im_X11_refuse m_se_X11_X11_refuse_X11_refuse m_in_X11 m_co_X11_refuse (by decide +kernel) ⟨Nat.le_of_ble_eq_true rfl, Nat.le_of_ble_eq_true rfl⟩ ⟨Nat.le_of_ble_eq_true rfl, Nat.le_of_ble_eq_true rfl⟩ rfl hl.1 rfl (Nat.le_of_ble_eq_true rfl) dX11_sound_21 hK hI (fun r G1 H1 L1 hp hI => ?_)
      obtain ⟨v, rfl, ev, hM⟩ := hp
      subst ev
      refine W.eq (g2 := F0 mI 24 ls [.int (-10 - (wHv A s))]) rfl ?_
      have e9 : sp_sound A s = ((-10 - (wHv A s)), (rfs A (wHv A s))) := by
        simp only [sp_sound, rfi, rfj, h_1, q_8, reduceIte, Bool.false_eq_true, not_true_eq_false, not_false_eq_true]
      exact g_iret hx hb hr hlocks hI ⟨_, rfl, by rw [e9], by rw [e9]; exact hM⟩ dX11_sound_24 (Nat.le_of_ble_eq_true rfl) (Nat.le_of_ble_eq_true rfl)
  · rw [hG] at hI
    refine W.eq (g2 := F0 mI 4 ls [.int 0]) rfl ?_
    refine lv_if_ne (tgt := 9) hx hb dX11_sound_4 (by decide) (fun c_9 => absurd c_9 (by decide)) (fun _ => ?_)
    refine lv_iconst (v := -1) hx hb dX11_sound_7 (by decide) ?_
    have e9 : sp_sound A s = ((-1), A) := by
      simp only [sp_sound, rfi, rfj, h_1, reduceIte, Bool.false_eq_true, not_true_eq_false, not_false_eq_true]
    exact g_iret hx hb hr hlocks hI ⟨_, rfl, by rw [e9], by rw [e9]; exact hM⟩ dX11_sound_8 (Nat.le_of_ble_eq_true rfl) (Nat.le_of_ble_eq_true rfl)
set_option maxHeartbeats 4000000 in
set_option maxRecDepth 100000 in
theorem c_X11_sort (l : Launch) (E : gE) (b0 : Nat) (G : gG) (mo : Nat) (ma : Nat → Nat) (A : gA) (hM : gMod E mo ma A G) (nn : Nat) (hw : wfb A nn) (s : Int32) : gM l yX11_sort cX11_sort 2 (some .int) 5 0 0 E b0 G [.ref mo, .int s] (pI (fun v9 G1 => v9 = (sp_sort A s).1 ∧ gMod E mo ma (sp_sort A s).2 G1)) := by
  refine gM.of (by decide +kernel) (Nat.le_of_ble_eq_true rfl) ?_
  intro pP eP sP mI bP meth cP ls hx hb hr hml hown hlocks hnm hts hK hI hl
  have hl : lv_has ls 2 [(0, .ref mo), (1, .int s)] := hl
  have hown : sP.vm.findClass RX11 = some mI.cls := hown
  refine lv_iload_n hx hb dX11_sort_0 rfl (lv_at hl 1 rfl) ?_
  refine g_callS (own := RX11) (index := 64) (n := 1) hx hb hml hown hts (c_X11_isShelf l E b0 _ s) m_ml_X11_64 m_st_X11_isShelf m_in_X11 m_co_X11_isShelf (by decide +kernel) ⟨Nat.le_of_ble_eq_true rfl, Nat.le_of_ble_eq_true rfl⟩ ⟨Nat.le_of_ble_eq_true rfl, Nat.le_of_ble_eq_true rfl⟩ rfl hl.1 rfl (Nat.le_of_ble_eq_true rfl) dX11_sort_1 hK hI (fun r G1 H1 L1 hp hI => ?_)
  obtain ⟨v, rfl, hG, ⟨h_1, rfl⟩ | ⟨h_1, rfl⟩⟩ := hp
  · rw [hG] at hI
    refine W.eq (g2 := F0 mI 4 ls [.int 1]) rfl ?_
    refine lv_if_ne (tgt := 11) hx hb dX11_sort_4 (by decide) (fun _ => ?_) (fun c_2 => absurd c_2 (by decide))
    refine lv_aload_n hx hb dX11_sort_11 rfl (lv_at hl 0 rfl) ?_
    refine x_get (index := 7) hx hb hts hown hK hI hM 0 (by decide) m_fl_X11_7 rfl dX11_sort_12 rfl ?_
    refine lv_iload_n hx hb dX11_sort_15 rfl (lv_at hl 1 rfl) ?_
    refine x_ld hx hb hK hI hM 0 (by decide) (sh_in h_1) dX11_sort_16 ?_
    refine lv_if_ne (tgt := 25) hx hb dX11_sort_17 (by decide) (fun c_3 => ?_) (fun c_3 => ?_)
    · have q_4 := eqb_f c_3
      refine lv_aload_n hx hb dX11_sort_25 rfl (lv_at hl 0 rfl) ?_
      refine x_get (index := 13) hx hb hts hown hK hI hM 2 (by decide) m_fl_X11_13 rfl dX11_sort_26 rfl ?_
      refine lv_aload_n hx hb dX11_sort_29 rfl (lv_at hl 0 rfl) ?_
      refine x_get (index := 7) hx hb hts hown hK hI hM 0 (by decide) m_fl_X11_7 rfl dX11_sort_30 rfl ?_
      refine lv_iload_n hx hb dX11_sort_33 rfl (lv_at hl 1 rfl) ?_
      refine x_ld hx hb hK hI hM 0 (by decide) (sh_in h_1) dX11_sort_34 ?_
      refine x_ld hx hb hK hI hM 2 (by decide) (hw.sh (sh_in h_1)) dX11_sort_35 ?_
      have e9 : sp_sort A s = ((A 2 (ix (A 0 (ix s)))), A) := by
        simp only [sp_sort, rfi, rfj, h_1, q_4, reduceIte, Bool.false_eq_true, not_true_eq_false, not_false_eq_true]
      exact g_iret hx hb hr hlocks hI ⟨_, rfl, by rw [e9], by rw [e9]; exact hM⟩ dX11_sort_36 (Nat.le_of_ble_eq_true rfl) (Nat.le_of_ble_eq_true rfl)
    · have q_5 := eqb_t c_3
      refine lv_bipush (v := -2) hx hb dX11_sort_20 (by decide) ?_
      refine lv_goto (tgt := 36) hx hb dX11_sort_22 (by decide) ?_
      have e9 : sp_sort A s = ((-2), A) := by
        simp only [sp_sort, rfi, rfj, h_1, q_5, reduceIte, Bool.false_eq_true, not_true_eq_false, not_false_eq_true]
      exact g_iret hx hb hr hlocks hI ⟨_, rfl, by rw [e9], by rw [e9]; exact hM⟩ dX11_sort_36 (Nat.le_of_ble_eq_true rfl) (Nat.le_of_ble_eq_true rfl)
  · rw [hG] at hI
    refine W.eq (g2 := F0 mI 4 ls [.int 0]) rfl ?_
    refine lv_if_ne (tgt := 11) hx hb dX11_sort_4 (by decide) (fun c_6 => absurd c_6 (by decide)) (fun _ => ?_)
    refine lv_iconst (v := -1) hx hb dX11_sort_7 (by decide) ?_
    refine lv_goto (tgt := 36) hx hb dX11_sort_8 (by decide) ?_
    have e9 : sp_sort A s = ((-1), A) := by
      simp only [sp_sort, rfi, rfj, h_1, reduceIte, Bool.false_eq_true, not_true_eq_false, not_false_eq_true]
    exact g_iret hx hb hr hlocks hI ⟨_, rfl, by rw [e9], by rw [e9]; exact hM⟩ dX11_sort_36 (Nat.le_of_ble_eq_true rfl) (Nat.le_of_ble_eq_true rfl)
set_option maxHeartbeats 4000000 in
set_option maxRecDepth 100000 in
theorem c_X11_told (l : Launch) (E : gE) (b0 : Nat) (G : gG) (mo : Nat) (ma : Nat → Nat) (A : gA) (hM : gMod E mo ma A G) (nn : Nat) (hw : wfb A nn) (s w : Int32) : gM l yX11_told cX11_told 6 (some .long) 5 0 0 E b0 G [.ref mo, .int s, .int w] (pL (fun v9 G1 => v9 = (sp_told A s w).1 ∧ gMod E mo ma (sp_told A s w).2 G1)) := by
  refine gM.of (by decide +kernel) (Nat.le_of_ble_eq_true rfl) ?_
  intro pP eP sP mI bP meth cP ls hx hb hr hml hown hlocks hnm hts hK hI hl
  have hl : lv_has ls 6 [(0, .ref mo), (1, .int s), (2, .int w)] := hl
  have hown : sP.vm.findClass RX11 = some mI.cls := hown
  refine lv_iload_n hx hb dX11_told_0 rfl (lv_at hl 1 rfl) ?_
  refine g_callS (own := RX11) (index := 64) (n := 1) hx hb hml hown hts (c_X11_isShelf l E b0 _ s) m_ml_X11_64 m_st_X11_isShelf m_in_X11 m_co_X11_isShelf (by decide +kernel) ⟨Nat.le_of_ble_eq_true rfl, Nat.le_of_ble_eq_true rfl⟩ ⟨Nat.le_of_ble_eq_true rfl, Nat.le_of_ble_eq_true rfl⟩ rfl hl.1 rfl (Nat.le_of_ble_eq_true rfl) dX11_told_1 hK hI (fun r G1 H1 L1 hp hI => ?_)
  obtain ⟨v, rfl, hG, ⟨h_1, rfl⟩ | ⟨h_1, rfl⟩⟩ := hp
  · rw [hG] at hI
    refine W.eq (g2 := F0 mI 4 ls [.int 1]) rfl ?_
    refine lv_if_eq (tgt := 17) hx hb dX11_told_4 (by decide) (fun c_2 => absurd c_2 (by decide)) (fun _ => ?_)
    refine lv_iload_n hx hb dX11_told_7 rfl (lv_at hl 2 rfl) ?_
    refine lv_iconst (v := 0) hx hb dX11_told_8 (by decide) ?_
    refine lv_bipush (v := 7) hx hb dX11_told_9 (by decide) ?_
    refine g_callS (own := RX11) (index := 50) (n := 3) hx hb hml hown hts (c_X11_in l E b0 _ w 0 7) m_ml_X11_50 m_st_X11_in m_in_X11 m_co_X11_in (by decide +kernel) ⟨Nat.le_of_ble_eq_true rfl, Nat.le_of_ble_eq_true rfl⟩ ⟨Nat.le_of_ble_eq_true rfl, Nat.le_of_ble_eq_true rfl⟩ rfl hl.1 rfl (Nat.le_of_ble_eq_true rfl) dX11_told_11 hK hI (fun r G1 H1 L1 hp hI => ?_)
    obtain ⟨v, rfl, hG, ⟨h_3, rfl⟩ | ⟨h_3, rfl⟩⟩ := hp
    · rw [hG] at hI
      refine W.eq (g2 := F0 mI 14 ls [.int 1]) rfl ?_
      refine lv_if_ne (tgt := 21) hx hb dX11_told_14 (by decide) (fun _ => ?_) (fun c_4 => absurd c_4 (by decide))
      refine lv_aload_n hx hb dX11_told_21 rfl (lv_at hl 0 rfl) ?_
      refine x_get (index := 7) hx hb hts hown hK hI hM 0 (by decide) m_fl_X11_7 rfl dX11_told_22 rfl ?_
      refine lv_iload_n hx hb dX11_told_25 rfl (lv_at hl 1 rfl) ?_
      refine x_ld hx hb hK hI hM 0 (by decide) (sh_in h_1) dX11_told_26 ?_
      refine lv_istore_n (lv' := [(3, .int (A 0 (ix s))), (0, .ref mo), (1, .int s), (2, .int w)]) hx hb dX11_told_27 rfl hl (by decide) rfl (fun ls hl => ?_)
      refine lv_iload_n hx hb dX11_told_28 rfl (lv_at hl 3 rfl) ?_
      refine lv_iconst (v := 2) hx hb dX11_told_29 (by decide) ?_
      refine lv_icmp_ge (tgt := 37) hx hb dX11_told_30 (by decide) (fun c_5 => ?_) (fun c_5 => ?_)
      · have c_5 := Int32.not_lt.mpr c_5
        refine lv_iload_n hx hb dX11_told_37 rfl (lv_at hl 3 rfl) ?_
        refine lv_iconst (v := 4) hx hb dX11_told_38 (by decide) ?_
        refine lv_icmp_ge (tgt := 46) hx hb dX11_told_39 (by decide) (fun c_6 => ?_) (fun c_6 => ?_)
        · have c_6 := Int32.not_lt.mpr c_6
          refine lv_iload_n hx hb dX11_told_46 rfl (lv_at hl 3 rfl) ?_
          refine lv_bipush (v := 6) hx hb dX11_told_47 (by decide) ?_
          refine lv_icmp_ge (tgt := 65) hx hb dX11_told_49 (by decide) (fun c_7 => ?_) (fun c_7 => ?_)
          · have c_7 := Int32.not_lt.mpr c_7
            refine lv_bipush (v := 6) hx hb dX11_told_65 (by decide) ?_
            refine lv_istore (lv' := [(4, .int 6), (3, .int (A 0 (ix s))), (0, .ref mo), (1, .int s), (2, .int w)]) hx hb dX11_told_67 hl (by decide) rfl (fun ls hl => ?_)
            refine lv_iload_n hx hb dX11_told_69 rfl (lv_at hl 4 rfl) ?_
            refine lv_iconst (v := 2) hx hb dX11_told_70 (by decide) ?_
            refine lv_icmp_ge (tgt := 78) hx hb dX11_told_71 (by decide) (fun _ => ?_) (fun c_8 => by have c_8 := Int32.not_le.mp c_8; first | exact absurd c_5 c_8 | exact absurd c_8 c_5)
            refine lv_iload_n hx hb dX11_told_78 rfl (lv_at hl 4 rfl) ?_
            refine lv_iconst (v := 4) hx hb dX11_told_79 (by decide) ?_
            refine lv_icmp_ge (tgt := 87) hx hb dX11_told_80 (by decide) (fun _ => ?_) (fun c_9 => by have c_9 := Int32.not_le.mp c_9; first | exact absurd c_6 c_9 | exact absurd c_9 c_6)
            refine lv_iload_n hx hb dX11_told_87 rfl (lv_at hl 4 rfl) ?_
            refine lv_bipush (v := 6) hx hb dX11_told_88 (by decide) ?_
            refine lv_icmp_ge (tgt := 106) hx hb dX11_told_90 (by decide) (fun _ => ?_) (fun c_10 => by have c_10 := Int32.not_le.mp c_10; first | exact absurd c_7 c_10 | exact absurd c_10 c_7)
            refine lv_bipush (v := 7) hx hb dX11_told_106 (by decide) ?_
            refine lv_istore (lv' := [(5, .int 7), (4, .int 6), (3, .int (A 0 (ix s))), (0, .ref mo), (1, .int s), (2, .int w)]) hx hb dX11_told_108 hl (by decide) rfl (fun ls hl => ?_)
            refine lv_aload_n hx hb dX11_told_110 rfl (lv_at hl 3 rfl) ?_
            refine lv_iload_n hx hb dX11_told_111 rfl (lv_at hl 2 rfl) ?_
            refine lv_iload hx hb dX11_told_112 (lv_at hl 1 rfl) ?_
            refine lv_iload hx hb dX11_told_114 (lv_at hl 0 rfl) ?_
            refine g_callV (own := RX11) (index := 76) (n := 3) hx hb hml hown hts (c_X11_fits l E b0 _ mo ma _ hM (A 0 (ix s)) 6 7 (hw.sh (sh_in h_1))) hM.1 rfl rfl m_ml_X11_76 m_im_X11_fits m_se_X11_X11_fits_X11_fits m_in_X11 m_co_X11_fits (by decide +kernel) ⟨Nat.le_of_ble_eq_true rfl, Nat.le_of_ble_eq_true rfl⟩ ⟨Nat.le_of_ble_eq_true rfl, Nat.le_of_ble_eq_true rfl⟩ rfl hl.1 rfl (Nat.le_of_ble_eq_true rfl) dX11_told_116 hK hI (fun r G1 H1 L1 hp hI => ?_)
            obtain ⟨v, rfl, hG, ⟨h_11, rfl⟩ | ⟨h_11, rfl⟩⟩ := hp
            · rw [hG] at hI
              refine W.eq (g2 := F0 mI 119 ls [.int 1]) rfl ?_
              refine lv_if_ne (tgt := 128) hx hb dX11_told_119 (by decide) (fun _ => ?_) (fun c_12 => absurd c_12 (by decide))
              refine lv_iload_n hx hb dX11_told_128 rfl (lv_at hl 2 rfl) ?_
              refine lv_if_eq (tgt := 162) hx hb dX11_told_129 (by decide) (fun c_13 => ?_) (fun c_13 => ?_)
              · have q_14 := eqb_t c_13
                refine lv_aload_n hx hb dX11_told_162 rfl (lv_at hl 3 rfl) ?_
                refine lv_iconst (v := 1) hx hb dX11_told_163 (by decide) ?_
                refine g_callV (own := RX11) (index := 90) (n := 1) hx hb hml hown hts (c_X11_refuseLong l E b0 _ mo ma _ hM 1 (vp_in_iff.mpr (by decide))) hM.1 rfl rfl m_ml_X11_90 m_im_X11_refuseLong m_se_X11_X11_refuseLong_X11_refuseLong m_in_X11 m_co_X11_refuseLong (by decide +kernel) ⟨Nat.le_of_ble_eq_true rfl, Nat.le_of_ble_eq_true rfl⟩ ⟨Nat.le_of_ble_eq_true rfl, Nat.le_of_ble_eq_true rfl⟩ rfl hl.1 rfl (Nat.le_of_ble_eq_true rfl) dX11_told_164 hK hI (fun r G1 H1 L1 hp hI => ?_)
                obtain ⟨v, rfl, ev, hM⟩ := hp
                subst ev
                refine W.eq (g2 := F0 mI 167 ls [.long (-9223372036854775708 + ((-10 - 1) : Int32).toInt64)]) rfl ?_
                have e9 : sp_told A s w = ((-9223372036854775708 + ((-10 - 1) : Int32).toInt64), (rfs A 1)) := by
                  simp only [sp_told, rfi, rfj, tlo, thi, tv5, tv7, h_1, h_3, c_5, c_6, c_7, h_11, q_14, reduceIte, Bool.false_eq_true, not_true_eq_false, not_false_eq_true]
                exact g_lret hx hb hr hlocks hI ⟨_, rfl, by rw [e9], by rw [e9]; exact hM⟩ dX11_told_167 (Nat.le_of_ble_eq_true rfl) (Nat.le_of_ble_eq_true rfl)
              · have q_15 := eqb_f c_13
                refine lv_iload_n hx hb dX11_told_132 rfl (lv_at hl 5 rfl) ?_
                refine lv_bipush (v := 6) hx hb dX11_told_133 (by decide) ?_
                refine lv_icmp_ne (tgt := 147) hx hb dX11_told_135 (by decide) (fun c_16 => ?_) (fun c_16 => ?_)
                · have q_17 := eqb_f c_16
                  refine lv_iload_n hx hb dX11_told_147 rfl (lv_at hl 5 rfl) ?_
                  refine lv_bipush (v := 7) hx hb dX11_told_148 (by decide) ?_
                  refine lv_icmp_ne (tgt := 168) hx hb dX11_told_150 (by decide) (fun c_18 => ?_) (fun c_18 => ?_)
                  · have q_19 := eqb_f c_18
                    refine lv_iload_n hx hb dX11_told_168 rfl (lv_at hl 5 rfl) ?_
                    refine lv_iconst (v := 5) hx hb dX11_told_169 (by decide) ?_
                    refine lv_icmp_le (tgt := 197) hx hb dX11_told_170 (by decide) (fun c_20 => ?_) (fun c_20 => ?_)
                    · have c_20 := Int32.not_lt.mpr c_20
                      refine lv_iload_n hx hb dX11_told_197 rfl (lv_at hl 5 rfl) ?_
                      refine lv_iconst (v := 1) hx hb dX11_told_198 (by decide) ?_
                      refine lv_icmp_eq (tgt := 207) hx hb dX11_told_199 (by decide) (fun c_21 => ?_) (fun c_21 => ?_)
                      · have q_22 := eqb_t c_21
                        refine lv_aload_n hx hb dX11_told_207 rfl (lv_at hl 3 rfl) ?_
                        refine x_get (index := 19) hx hb hts hown hK hI hM 4 (by decide) m_fl_X11_19 rfl dX11_told_208 rfl ?_
                        refine lv_iload_n hx hb dX11_told_211 rfl (lv_at hl 2 rfl) ?_
                        refine x_ld hx hb hK hI hM 4 (by decide) (hw.sh (sh_in h_1)) dX11_told_212 ?_
                        refine lv_i2l hx hb dX11_told_213 rfl ?_
                        refine lv_goto (tgt := 224) hx hb dX11_told_214 (by decide) ?_
                        have e9 : sp_told A s w = ((((A 4 (ix (A 0 (ix s)))) : Int32).toInt64), A) := by
                          simp only [sp_told, rfi, rfj, tlo, thi, tv5, tv7, h_1, h_3, c_5, c_6, c_7, h_11, q_15, q_17, q_19, c_20, q_22, reduceIte, Bool.false_eq_true, not_true_eq_false, not_false_eq_true]
                        exact g_lret hx hb hr hlocks hI ⟨_, rfl, by rw [e9], by rw [e9]; exact hM⟩ dX11_told_224 (Nat.le_of_ble_eq_true rfl) (Nat.le_of_ble_eq_true rfl)
                      · have q_23 := eqb_f c_21
                        refine lv_iload_n hx hb dX11_told_202 rfl (lv_at hl 5 rfl) ?_
                        refine lv_iconst (v := 3) hx hb dX11_told_203 (by decide) ?_
                        refine lv_icmp_ne (tgt := 217) hx hb dX11_told_204 (by decide) (fun c_24 => ?_) (fun c_24 => ?_)
                        · have q_25 := eqb_f c_24
                          refine lv_aload_n hx hb dX11_told_217 rfl (lv_at hl 3 rfl) ?_
                          refine x_get (index := 16) hx hb hts hown hK hI hM 3 (by decide) m_fl_X11_16 rfl dX11_told_218 rfl ?_
                          refine lv_iload_n hx hb dX11_told_221 rfl (lv_at hl 2 rfl) ?_
                          refine x_ld hx hb hK hI hM 3 (by decide) (hw.sh (sh_in h_1)) dX11_told_222 ?_
                          refine lv_i2l hx hb dX11_told_223 rfl ?_
                          have e9 : sp_told A s w = ((((A 3 (ix (A 0 (ix s)))) : Int32).toInt64), A) := by
                            simp only [sp_told, rfi, rfj, tlo, thi, tv5, tv7, h_1, h_3, c_5, c_6, c_7, h_11, q_15, q_17, q_19, c_20, q_23, q_25, reduceIte, Bool.false_eq_true, not_true_eq_false, not_false_eq_true]
                          exact g_lret hx hb hr hlocks hI ⟨_, rfl, by rw [e9], by rw [e9]; exact hM⟩ dX11_told_224 (Nat.le_of_ble_eq_true rfl) (Nat.le_of_ble_eq_true rfl)
                        · have q_26 := eqb_t c_24
                          refine lv_aload_n hx hb dX11_told_207 rfl (lv_at hl 3 rfl) ?_
                          refine x_get (index := 19) hx hb hts hown hK hI hM 4 (by decide) m_fl_X11_19 rfl dX11_told_208 rfl ?_
                          refine lv_iload_n hx hb dX11_told_211 rfl (lv_at hl 2 rfl) ?_
                          refine x_ld hx hb hK hI hM 4 (by decide) (hw.sh (sh_in h_1)) dX11_told_212 ?_
                          refine lv_i2l hx hb dX11_told_213 rfl ?_
                          refine lv_goto (tgt := 224) hx hb dX11_told_214 (by decide) ?_
                          have e9 : sp_told A s w = ((((A 4 (ix (A 0 (ix s)))) : Int32).toInt64), A) := by
                            simp only [sp_told, rfi, rfj, tlo, thi, tv5, tv7, h_1, h_3, c_5, c_6, c_7, h_11, q_15, q_17, q_19, c_20, q_23, q_26, reduceIte, Bool.false_eq_true, not_true_eq_false, not_false_eq_true]
                          exact g_lret hx hb hr hlocks hI ⟨_, rfl, by rw [e9], by rw [e9]; exact hM⟩ dX11_told_224 (Nat.le_of_ble_eq_true rfl) (Nat.le_of_ble_eq_true rfl)
                    · have c_20 := Int32.not_le.mp c_20
                      refine lv_iload_n hx hb dX11_told_173 rfl (lv_at hl 5 rfl) ?_
                      refine lv_bipush (v := 6) hx hb dX11_told_174 (by decide) ?_
                      refine lv_icmp_ne (tgt := 189) hx hb dX11_told_176 (by decide) (fun _ => ?_) (fun c_27 => by first | exact absurd c_16 c_27 | exact absurd c_27 c_16 | (simp_all; done))
                      refine lv_aload_n hx hb dX11_told_189 rfl (lv_at hl 3 rfl) ?_
                      refine x_get (index := 28) hx hb hts hown hK hI hM 7 (by decide) m_fl_X11_28 rfl dX11_told_190 rfl ?_
                      refine lv_iload_n hx hb dX11_told_193 rfl (lv_at hl 2 rfl) ?_
                      refine x_ld hx hb hK hI hM 7 (by decide) (hw.sh (sh_in h_1)) dX11_told_194 ?_
                      refine lv_i2l hx hb dX11_told_195 rfl ?_
                      have e9 : sp_told A s w = ((((A 7 (ix (A 0 (ix s)))) : Int32).toInt64), A) := by
                        simp only [sp_told, rfi, rfj, tlo, thi, tv5, tv7, h_1, h_3, c_5, c_6, c_7, h_11, q_15, q_17, q_19, c_20, reduceIte, Bool.false_eq_true, not_true_eq_false, not_false_eq_true]
                      exact g_lret hx hb hr hlocks hI ⟨_, rfl, by rw [e9], by rw [e9]; exact hM⟩ dX11_told_196 (Nat.le_of_ble_eq_true rfl) (Nat.le_of_ble_eq_true rfl)
                  · have q_28 := eqb_t c_18
                    refine lv_aload_n hx hb dX11_told_153 rfl (lv_at hl 3 rfl) ?_
                    refine x_get (index := 28) hx hb hts hown hK hI hM 7 (by decide) m_fl_X11_28 rfl dX11_told_154 rfl ?_
                    refine lv_iload_n hx hb dX11_told_157 rfl (lv_at hl 2 rfl) ?_
                    refine x_ld hx hb hK hI hM 7 (by decide) (hw.sh (sh_in h_1)) dX11_told_158 ?_
                    refine lv_if_ge (tgt := 168) hx hb dX11_told_159 (by decide) (fun c_29 => ?_) (fun c_29 => ?_)
                    · have c_29 := Int32.not_lt.mpr c_29
                      refine lv_iload_n hx hb dX11_told_168 rfl (lv_at hl 5 rfl) ?_
                      refine lv_iconst (v := 5) hx hb dX11_told_169 (by decide) ?_
                      refine lv_icmp_le (tgt := 197) hx hb dX11_told_170 (by decide) (fun c_30 => ?_) (fun c_30 => ?_)
                      · have c_30 := Int32.not_lt.mpr c_30
                        refine lv_iload_n hx hb dX11_told_197 rfl (lv_at hl 5 rfl) ?_
                        refine lv_iconst (v := 1) hx hb dX11_told_198 (by decide) ?_
                        refine lv_icmp_eq (tgt := 207) hx hb dX11_told_199 (by decide) (fun c_31 => ?_) (fun c_31 => ?_)
                        · have q_32 := eqb_t c_31
                          refine lv_aload_n hx hb dX11_told_207 rfl (lv_at hl 3 rfl) ?_
                          refine x_get (index := 19) hx hb hts hown hK hI hM 4 (by decide) m_fl_X11_19 rfl dX11_told_208 rfl ?_
                          refine lv_iload_n hx hb dX11_told_211 rfl (lv_at hl 2 rfl) ?_
                          refine x_ld hx hb hK hI hM 4 (by decide) (hw.sh (sh_in h_1)) dX11_told_212 ?_
                          refine lv_i2l hx hb dX11_told_213 rfl ?_
                          refine lv_goto (tgt := 224) hx hb dX11_told_214 (by decide) ?_
                          have e9 : sp_told A s w = ((((A 4 (ix (A 0 (ix s)))) : Int32).toInt64), A) := by
                            simp only [sp_told, rfi, rfj, tlo, thi, tv5, tv7, h_1, h_3, c_5, c_6, c_7, h_11, q_15, q_17, q_28, c_29, c_30, q_32, reduceIte, Bool.false_eq_true, not_true_eq_false, not_false_eq_true]
                          exact g_lret hx hb hr hlocks hI ⟨_, rfl, by rw [e9], by rw [e9]; exact hM⟩ dX11_told_224 (Nat.le_of_ble_eq_true rfl) (Nat.le_of_ble_eq_true rfl)
                        · have q_33 := eqb_f c_31
                          refine lv_iload_n hx hb dX11_told_202 rfl (lv_at hl 5 rfl) ?_
                          refine lv_iconst (v := 3) hx hb dX11_told_203 (by decide) ?_
                          refine lv_icmp_ne (tgt := 217) hx hb dX11_told_204 (by decide) (fun c_34 => ?_) (fun c_34 => ?_)
                          · have q_35 := eqb_f c_34
                            refine lv_aload_n hx hb dX11_told_217 rfl (lv_at hl 3 rfl) ?_
                            refine x_get (index := 16) hx hb hts hown hK hI hM 3 (by decide) m_fl_X11_16 rfl dX11_told_218 rfl ?_
                            refine lv_iload_n hx hb dX11_told_221 rfl (lv_at hl 2 rfl) ?_
                            refine x_ld hx hb hK hI hM 3 (by decide) (hw.sh (sh_in h_1)) dX11_told_222 ?_
                            refine lv_i2l hx hb dX11_told_223 rfl ?_
                            have e9 : sp_told A s w = ((((A 3 (ix (A 0 (ix s)))) : Int32).toInt64), A) := by
                              simp only [sp_told, rfi, rfj, tlo, thi, tv5, tv7, h_1, h_3, c_5, c_6, c_7, h_11, q_15, q_17, q_28, c_29, c_30, q_33, q_35, reduceIte, Bool.false_eq_true, not_true_eq_false, not_false_eq_true]
                            exact g_lret hx hb hr hlocks hI ⟨_, rfl, by rw [e9], by rw [e9]; exact hM⟩ dX11_told_224 (Nat.le_of_ble_eq_true rfl) (Nat.le_of_ble_eq_true rfl)
                          · have q_36 := eqb_t c_34
                            refine lv_aload_n hx hb dX11_told_207 rfl (lv_at hl 3 rfl) ?_
                            refine x_get (index := 19) hx hb hts hown hK hI hM 4 (by decide) m_fl_X11_19 rfl dX11_told_208 rfl ?_
                            refine lv_iload_n hx hb dX11_told_211 rfl (lv_at hl 2 rfl) ?_
                            refine x_ld hx hb hK hI hM 4 (by decide) (hw.sh (sh_in h_1)) dX11_told_212 ?_
                            refine lv_i2l hx hb dX11_told_213 rfl ?_
                            refine lv_goto (tgt := 224) hx hb dX11_told_214 (by decide) ?_
                            have e9 : sp_told A s w = ((((A 4 (ix (A 0 (ix s)))) : Int32).toInt64), A) := by
                              simp only [sp_told, rfi, rfj, tlo, thi, tv5, tv7, h_1, h_3, c_5, c_6, c_7, h_11, q_15, q_17, q_28, c_29, c_30, q_33, q_36, reduceIte, Bool.false_eq_true, not_true_eq_false, not_false_eq_true]
                            exact g_lret hx hb hr hlocks hI ⟨_, rfl, by rw [e9], by rw [e9]; exact hM⟩ dX11_told_224 (Nat.le_of_ble_eq_true rfl) (Nat.le_of_ble_eq_true rfl)
                      · have c_30 := Int32.not_le.mp c_30
                        refine lv_iload_n hx hb dX11_told_173 rfl (lv_at hl 5 rfl) ?_
                        refine lv_bipush (v := 6) hx hb dX11_told_174 (by decide) ?_
                        refine lv_icmp_ne (tgt := 189) hx hb dX11_told_176 (by decide) (fun _ => ?_) (fun c_37 => by first | exact absurd c_16 c_37 | exact absurd c_37 c_16 | (simp_all; done))
                        refine lv_aload_n hx hb dX11_told_189 rfl (lv_at hl 3 rfl) ?_
                        refine x_get (index := 28) hx hb hts hown hK hI hM 7 (by decide) m_fl_X11_28 rfl dX11_told_190 rfl ?_
                        refine lv_iload_n hx hb dX11_told_193 rfl (lv_at hl 2 rfl) ?_
                        refine x_ld hx hb hK hI hM 7 (by decide) (hw.sh (sh_in h_1)) dX11_told_194 ?_
                        refine lv_i2l hx hb dX11_told_195 rfl ?_
                        have e9 : sp_told A s w = ((((A 7 (ix (A 0 (ix s)))) : Int32).toInt64), A) := by
                          simp only [sp_told, rfi, rfj, tlo, thi, tv5, tv7, h_1, h_3, c_5, c_6, c_7, h_11, q_15, q_17, q_28, c_29, c_30, reduceIte, Bool.false_eq_true, not_true_eq_false, not_false_eq_true]
                        exact g_lret hx hb hr hlocks hI ⟨_, rfl, by rw [e9], by rw [e9]; exact hM⟩ dX11_told_196 (Nat.le_of_ble_eq_true rfl) (Nat.le_of_ble_eq_true rfl)
                    · have c_29 := Int32.not_le.mp c_29
                      refine lv_aload_n hx hb dX11_told_162 rfl (lv_at hl 3 rfl) ?_
                      refine lv_iconst (v := 1) hx hb dX11_told_163 (by decide) ?_
                      refine g_callV (own := RX11) (index := 90) (n := 1) hx hb hml hown hts (c_X11_refuseLong l E b0 _ mo ma _ hM 1 (vp_in_iff.mpr (by decide))) hM.1 rfl rfl m_ml_X11_90 m_im_X11_refuseLong m_se_X11_X11_refuseLong_X11_refuseLong m_in_X11 m_co_X11_refuseLong (by decide +kernel) ⟨Nat.le_of_ble_eq_true rfl, Nat.le_of_ble_eq_true rfl⟩ ⟨Nat.le_of_ble_eq_true rfl, Nat.le_of_ble_eq_true rfl⟩ rfl hl.1 rfl (Nat.le_of_ble_eq_true rfl) dX11_told_164 hK hI (fun r G1 H1 L1 hp hI => ?_)
                      obtain ⟨v, rfl, ev, hM⟩ := hp
                      subst ev
                      refine W.eq (g2 := F0 mI 167 ls [.long (-9223372036854775708 + ((-10 - 1) : Int32).toInt64)]) rfl ?_
                      have e9 : sp_told A s w = ((-9223372036854775708 + ((-10 - 1) : Int32).toInt64), (rfs A 1)) := by
                        simp only [sp_told, rfi, rfj, tlo, thi, tv5, tv7, h_1, h_3, c_5, c_6, c_7, h_11, q_15, q_17, q_28, c_29, reduceIte, Bool.false_eq_true, not_true_eq_false, not_false_eq_true]
                      exact g_lret hx hb hr hlocks hI ⟨_, rfl, by rw [e9], by rw [e9]; exact hM⟩ dX11_told_167 (Nat.le_of_ble_eq_true rfl) (Nat.le_of_ble_eq_true rfl)
                · have q_38 := eqb_t c_16
                  refine lv_aload_n hx hb dX11_told_138 rfl (lv_at hl 3 rfl) ?_
                  refine x_get (index := 22) hx hb hts hown hK hI hM 5 (by decide) m_fl_X11_22 rfl dX11_told_139 rfl ?_
                  refine lv_iload_n hx hb dX11_told_142 rfl (lv_at hl 2 rfl) ?_
                  refine x_ld hx hb hK hI hM 5 (by decide) (hw.sh (sh_in h_1)) dX11_told_143 ?_
                  refine lv_if_lt (tgt := 162) hx hb dX11_told_144 (by decide) (fun c_39 => ?_) (fun c_39 => ?_)
                  · refine lv_aload_n hx hb dX11_told_162 rfl (lv_at hl 3 rfl) ?_
                    refine lv_iconst (v := 1) hx hb dX11_told_163 (by decide) ?_
                    refine g_callV (own := RX11) (index := 90) (n := 1) hx hb hml hown hts (c_X11_refuseLong l E b0 _ mo ma _ hM 1 (vp_in_iff.mpr (by decide))) hM.1 rfl rfl m_ml_X11_90 m_im_X11_refuseLong m_se_X11_X11_refuseLong_X11_refuseLong m_in_X11 m_co_X11_refuseLong (by decide +kernel) ⟨Nat.le_of_ble_eq_true rfl, Nat.le_of_ble_eq_true rfl⟩ ⟨Nat.le_of_ble_eq_true rfl, Nat.le_of_ble_eq_true rfl⟩ rfl hl.1 rfl (Nat.le_of_ble_eq_true rfl) dX11_told_164 hK hI (fun r G1 H1 L1 hp hI => ?_)
                    obtain ⟨v, rfl, ev, hM⟩ := hp
                    subst ev
                    refine W.eq (g2 := F0 mI 167 ls [.long (-9223372036854775708 + ((-10 - 1) : Int32).toInt64)]) rfl ?_
                    have e9 : sp_told A s w = ((-9223372036854775708 + ((-10 - 1) : Int32).toInt64), (rfs A 1)) := by
                      simp only [sp_told, rfi, rfj, tlo, thi, tv5, tv7, h_1, h_3, c_5, c_6, c_7, h_11, q_15, q_38, c_39, reduceIte, Bool.false_eq_true, not_true_eq_false, not_false_eq_true]
                    exact g_lret hx hb hr hlocks hI ⟨_, rfl, by rw [e9], by rw [e9]; exact hM⟩ dX11_told_167 (Nat.le_of_ble_eq_true rfl) (Nat.le_of_ble_eq_true rfl)
                  · refine lv_iload_n hx hb dX11_told_147 rfl (lv_at hl 5 rfl) ?_
                    refine lv_bipush (v := 7) hx hb dX11_told_148 (by decide) ?_
                    refine lv_icmp_ne (tgt := 168) hx hb dX11_told_150 (by decide) (fun c_40 => ?_) (fun c_40 => ?_)
                    · have q_41 := eqb_f c_40
                      refine lv_iload_n hx hb dX11_told_168 rfl (lv_at hl 5 rfl) ?_
                      refine lv_iconst (v := 5) hx hb dX11_told_169 (by decide) ?_
                      refine lv_icmp_le (tgt := 197) hx hb dX11_told_170 (by decide) (fun c_42 => ?_) (fun c_42 => ?_)
                      · have c_42 := Int32.not_lt.mpr c_42
                        refine lv_iload_n hx hb dX11_told_197 rfl (lv_at hl 5 rfl) ?_
                        refine lv_iconst (v := 1) hx hb dX11_told_198 (by decide) ?_
                        refine lv_icmp_eq (tgt := 207) hx hb dX11_told_199 (by decide) (fun c_43 => ?_) (fun c_43 => ?_)
                        · have q_44 := eqb_t c_43
                          refine lv_aload_n hx hb dX11_told_207 rfl (lv_at hl 3 rfl) ?_
                          refine x_get (index := 19) hx hb hts hown hK hI hM 4 (by decide) m_fl_X11_19 rfl dX11_told_208 rfl ?_
                          refine lv_iload_n hx hb dX11_told_211 rfl (lv_at hl 2 rfl) ?_
                          refine x_ld hx hb hK hI hM 4 (by decide) (hw.sh (sh_in h_1)) dX11_told_212 ?_
                          refine lv_i2l hx hb dX11_told_213 rfl ?_
                          refine lv_goto (tgt := 224) hx hb dX11_told_214 (by decide) ?_
                          have e9 : sp_told A s w = ((((A 4 (ix (A 0 (ix s)))) : Int32).toInt64), A) := by
                            simp only [sp_told, rfi, rfj, tlo, thi, tv5, tv7, h_1, h_3, c_5, c_6, c_7, h_11, q_15, q_38, c_39, q_41, c_42, q_44, reduceIte, Bool.false_eq_true, not_true_eq_false, not_false_eq_true]
                          exact g_lret hx hb hr hlocks hI ⟨_, rfl, by rw [e9], by rw [e9]; exact hM⟩ dX11_told_224 (Nat.le_of_ble_eq_true rfl) (Nat.le_of_ble_eq_true rfl)
                        · have q_45 := eqb_f c_43
                          refine lv_iload_n hx hb dX11_told_202 rfl (lv_at hl 5 rfl) ?_
                          refine lv_iconst (v := 3) hx hb dX11_told_203 (by decide) ?_
                          refine lv_icmp_ne (tgt := 217) hx hb dX11_told_204 (by decide) (fun c_46 => ?_) (fun c_46 => ?_)
                          · have q_47 := eqb_f c_46
                            refine lv_aload_n hx hb dX11_told_217 rfl (lv_at hl 3 rfl) ?_
                            refine x_get (index := 16) hx hb hts hown hK hI hM 3 (by decide) m_fl_X11_16 rfl dX11_told_218 rfl ?_
                            refine lv_iload_n hx hb dX11_told_221 rfl (lv_at hl 2 rfl) ?_
                            refine x_ld hx hb hK hI hM 3 (by decide) (hw.sh (sh_in h_1)) dX11_told_222 ?_
                            refine lv_i2l hx hb dX11_told_223 rfl ?_
                            have e9 : sp_told A s w = ((((A 3 (ix (A 0 (ix s)))) : Int32).toInt64), A) := by
                              simp only [sp_told, rfi, rfj, tlo, thi, tv5, tv7, h_1, h_3, c_5, c_6, c_7, h_11, q_15, q_38, c_39, q_41, c_42, q_45, q_47, reduceIte, Bool.false_eq_true, not_true_eq_false, not_false_eq_true]
                            exact g_lret hx hb hr hlocks hI ⟨_, rfl, by rw [e9], by rw [e9]; exact hM⟩ dX11_told_224 (Nat.le_of_ble_eq_true rfl) (Nat.le_of_ble_eq_true rfl)
                          · have q_48 := eqb_t c_46
                            refine lv_aload_n hx hb dX11_told_207 rfl (lv_at hl 3 rfl) ?_
                            refine x_get (index := 19) hx hb hts hown hK hI hM 4 (by decide) m_fl_X11_19 rfl dX11_told_208 rfl ?_
                            refine lv_iload_n hx hb dX11_told_211 rfl (lv_at hl 2 rfl) ?_
                            refine x_ld hx hb hK hI hM 4 (by decide) (hw.sh (sh_in h_1)) dX11_told_212 ?_
                            refine lv_i2l hx hb dX11_told_213 rfl ?_
                            refine lv_goto (tgt := 224) hx hb dX11_told_214 (by decide) ?_
                            have e9 : sp_told A s w = ((((A 4 (ix (A 0 (ix s)))) : Int32).toInt64), A) := by
                              simp only [sp_told, rfi, rfj, tlo, thi, tv5, tv7, h_1, h_3, c_5, c_6, c_7, h_11, q_15, q_38, c_39, q_41, c_42, q_45, q_48, reduceIte, Bool.false_eq_true, not_true_eq_false, not_false_eq_true]
                            exact g_lret hx hb hr hlocks hI ⟨_, rfl, by rw [e9], by rw [e9]; exact hM⟩ dX11_told_224 (Nat.le_of_ble_eq_true rfl) (Nat.le_of_ble_eq_true rfl)
                      · have c_42 := Int32.not_le.mp c_42
                        refine lv_iload_n hx hb dX11_told_173 rfl (lv_at hl 5 rfl) ?_
                        refine lv_bipush (v := 6) hx hb dX11_told_174 (by decide) ?_
                        refine lv_icmp_ne (tgt := 189) hx hb dX11_told_176 (by decide) (fun c_49 => by first | exact absurd c_16 c_49 | exact absurd c_49 c_16 | (simp_all; done)) (fun _ => ?_)
                        refine lv_aload_n hx hb dX11_told_179 rfl (lv_at hl 3 rfl) ?_
                        refine x_get (index := 22) hx hb hts hown hK hI hM 5 (by decide) m_fl_X11_22 rfl dX11_told_180 rfl ?_
                        refine lv_iload_n hx hb dX11_told_183 rfl (lv_at hl 2 rfl) ?_
                        refine x_ld hx hb hK hI hM 5 (by decide) (hw.sh (sh_in h_1)) dX11_told_184 ?_
                        refine lv_i2l hx hb dX11_told_185 rfl ?_
                        refine lv_goto (tgt := 196) hx hb dX11_told_186 (by decide) ?_
                        have e9 : sp_told A s w = ((((A 5 (ix (A 0 (ix s)))) : Int32).toInt64), A) := by
                          simp only [sp_told, rfi, rfj, tlo, thi, tv5, tv7, h_1, h_3, c_5, c_6, c_7, h_11, q_15, q_38, c_39, q_41, c_42, reduceIte, Bool.false_eq_true, not_true_eq_false, not_false_eq_true]
                        exact g_lret hx hb hr hlocks hI ⟨_, rfl, by rw [e9], by rw [e9]; exact hM⟩ dX11_told_196 (Nat.le_of_ble_eq_true rfl) (Nat.le_of_ble_eq_true rfl)
                    · have q_50 := eqb_t c_40
                      refine lv_aload_n hx hb dX11_told_153 rfl (lv_at hl 3 rfl) ?_
                      refine x_get (index := 28) hx hb hts hown hK hI hM 7 (by decide) m_fl_X11_28 rfl dX11_told_154 rfl ?_
                      refine lv_iload_n hx hb dX11_told_157 rfl (lv_at hl 2 rfl) ?_
                      refine x_ld hx hb hK hI hM 7 (by decide) (hw.sh (sh_in h_1)) dX11_told_158 ?_
                      refine lv_if_ge (tgt := 168) hx hb dX11_told_159 (by decide) (fun c_51 => ?_) (fun c_51 => ?_)
                      · have c_51 := Int32.not_lt.mpr c_51
                        refine lv_iload_n hx hb dX11_told_168 rfl (lv_at hl 5 rfl) ?_
                        refine lv_iconst (v := 5) hx hb dX11_told_169 (by decide) ?_
                        refine lv_icmp_le (tgt := 197) hx hb dX11_told_170 (by decide) (fun c_52 => ?_) (fun c_52 => ?_)
                        · have c_52 := Int32.not_lt.mpr c_52
                          refine lv_iload_n hx hb dX11_told_197 rfl (lv_at hl 5 rfl) ?_
                          refine lv_iconst (v := 1) hx hb dX11_told_198 (by decide) ?_
                          refine lv_icmp_eq (tgt := 207) hx hb dX11_told_199 (by decide) (fun c_53 => ?_) (fun c_53 => ?_)
                          · have q_54 := eqb_t c_53
                            refine lv_aload_n hx hb dX11_told_207 rfl (lv_at hl 3 rfl) ?_
                            refine x_get (index := 19) hx hb hts hown hK hI hM 4 (by decide) m_fl_X11_19 rfl dX11_told_208 rfl ?_
                            refine lv_iload_n hx hb dX11_told_211 rfl (lv_at hl 2 rfl) ?_
                            refine x_ld hx hb hK hI hM 4 (by decide) (hw.sh (sh_in h_1)) dX11_told_212 ?_
                            refine lv_i2l hx hb dX11_told_213 rfl ?_
                            refine lv_goto (tgt := 224) hx hb dX11_told_214 (by decide) ?_
                            have e9 : sp_told A s w = ((((A 4 (ix (A 0 (ix s)))) : Int32).toInt64), A) := by
                              simp only [sp_told, rfi, rfj, tlo, thi, tv5, tv7, h_1, h_3, c_5, c_6, c_7, h_11, q_15, q_38, c_39, q_50, c_51, c_52, q_54, reduceIte, Bool.false_eq_true, not_true_eq_false, not_false_eq_true]
                            exact g_lret hx hb hr hlocks hI ⟨_, rfl, by rw [e9], by rw [e9]; exact hM⟩ dX11_told_224 (Nat.le_of_ble_eq_true rfl) (Nat.le_of_ble_eq_true rfl)
                          · have q_55 := eqb_f c_53
                            refine lv_iload_n hx hb dX11_told_202 rfl (lv_at hl 5 rfl) ?_
                            refine lv_iconst (v := 3) hx hb dX11_told_203 (by decide) ?_
                            refine lv_icmp_ne (tgt := 217) hx hb dX11_told_204 (by decide) (fun c_56 => ?_) (fun c_56 => ?_)
                            · have q_57 := eqb_f c_56
                              refine lv_aload_n hx hb dX11_told_217 rfl (lv_at hl 3 rfl) ?_
                              refine x_get (index := 16) hx hb hts hown hK hI hM 3 (by decide) m_fl_X11_16 rfl dX11_told_218 rfl ?_
                              refine lv_iload_n hx hb dX11_told_221 rfl (lv_at hl 2 rfl) ?_
                              refine x_ld hx hb hK hI hM 3 (by decide) (hw.sh (sh_in h_1)) dX11_told_222 ?_
                              refine lv_i2l hx hb dX11_told_223 rfl ?_
                              have e9 : sp_told A s w = ((((A 3 (ix (A 0 (ix s)))) : Int32).toInt64), A) := by
                                simp only [sp_told, rfi, rfj, tlo, thi, tv5, tv7, h_1, h_3, c_5, c_6, c_7, h_11, q_15, q_38, c_39, q_50, c_51, c_52, q_55, q_57, reduceIte, Bool.false_eq_true, not_true_eq_false, not_false_eq_true]
                              exact g_lret hx hb hr hlocks hI ⟨_, rfl, by rw [e9], by rw [e9]; exact hM⟩ dX11_told_224 (Nat.le_of_ble_eq_true rfl) (Nat.le_of_ble_eq_true rfl)
                            · have q_58 := eqb_t c_56
                              refine lv_aload_n hx hb dX11_told_207 rfl (lv_at hl 3 rfl) ?_
                              refine x_get (index := 19) hx hb hts hown hK hI hM 4 (by decide) m_fl_X11_19 rfl dX11_told_208 rfl ?_
                              refine lv_iload_n hx hb dX11_told_211 rfl (lv_at hl 2 rfl) ?_
                              refine x_ld hx hb hK hI hM 4 (by decide) (hw.sh (sh_in h_1)) dX11_told_212 ?_
                              refine lv_i2l hx hb dX11_told_213 rfl ?_
                              refine lv_goto (tgt := 224) hx hb dX11_told_214 (by decide) ?_
                              have e9 : sp_told A s w = ((((A 4 (ix (A 0 (ix s)))) : Int32).toInt64), A) := by
                                simp only [sp_told, rfi, rfj, tlo, thi, tv5, tv7, h_1, h_3, c_5, c_6, c_7, h_11, q_15, q_38, c_39, q_50, c_51, c_52, q_55, q_58, reduceIte, Bool.false_eq_true, not_true_eq_false, not_false_eq_true]
                              exact g_lret hx hb hr hlocks hI ⟨_, rfl, by rw [e9], by rw [e9]; exact hM⟩ dX11_told_224 (Nat.le_of_ble_eq_true rfl) (Nat.le_of_ble_eq_true rfl)
                        · have c_52 := Int32.not_le.mp c_52
                          refine lv_iload_n hx hb dX11_told_173 rfl (lv_at hl 5 rfl) ?_
                          refine lv_bipush (v := 6) hx hb dX11_told_174 (by decide) ?_
                          refine lv_icmp_ne (tgt := 189) hx hb dX11_told_176 (by decide) (fun c_59 => by first | exact absurd c_16 c_59 | exact absurd c_59 c_16 | (simp_all; done)) (fun _ => ?_)
                          refine lv_aload_n hx hb dX11_told_179 rfl (lv_at hl 3 rfl) ?_
                          refine x_get (index := 22) hx hb hts hown hK hI hM 5 (by decide) m_fl_X11_22 rfl dX11_told_180 rfl ?_
                          refine lv_iload_n hx hb dX11_told_183 rfl (lv_at hl 2 rfl) ?_
                          refine x_ld hx hb hK hI hM 5 (by decide) (hw.sh (sh_in h_1)) dX11_told_184 ?_
                          refine lv_i2l hx hb dX11_told_185 rfl ?_
                          refine lv_goto (tgt := 196) hx hb dX11_told_186 (by decide) ?_
                          have e9 : sp_told A s w = ((((A 5 (ix (A 0 (ix s)))) : Int32).toInt64), A) := by
                            simp only [sp_told, rfi, rfj, tlo, thi, tv5, tv7, h_1, h_3, c_5, c_6, c_7, h_11, q_15, q_38, c_39, q_50, c_51, c_52, reduceIte, Bool.false_eq_true, not_true_eq_false, not_false_eq_true]
                          exact g_lret hx hb hr hlocks hI ⟨_, rfl, by rw [e9], by rw [e9]; exact hM⟩ dX11_told_196 (Nat.le_of_ble_eq_true rfl) (Nat.le_of_ble_eq_true rfl)
                      · have c_51 := Int32.not_le.mp c_51
                        refine lv_aload_n hx hb dX11_told_162 rfl (lv_at hl 3 rfl) ?_
                        refine lv_iconst (v := 1) hx hb dX11_told_163 (by decide) ?_
                        refine g_callV (own := RX11) (index := 90) (n := 1) hx hb hml hown hts (c_X11_refuseLong l E b0 _ mo ma _ hM 1 (vp_in_iff.mpr (by decide))) hM.1 rfl rfl m_ml_X11_90 m_im_X11_refuseLong m_se_X11_X11_refuseLong_X11_refuseLong m_in_X11 m_co_X11_refuseLong (by decide +kernel) ⟨Nat.le_of_ble_eq_true rfl, Nat.le_of_ble_eq_true rfl⟩ ⟨Nat.le_of_ble_eq_true rfl, Nat.le_of_ble_eq_true rfl⟩ rfl hl.1 rfl (Nat.le_of_ble_eq_true rfl) dX11_told_164 hK hI (fun r G1 H1 L1 hp hI => ?_)
                        obtain ⟨v, rfl, ev, hM⟩ := hp
                        subst ev
                        refine W.eq (g2 := F0 mI 167 ls [.long (-9223372036854775708 + ((-10 - 1) : Int32).toInt64)]) rfl ?_
                        have e9 : sp_told A s w = ((-9223372036854775708 + ((-10 - 1) : Int32).toInt64), (rfs A 1)) := by
                          simp only [sp_told, rfi, rfj, tlo, thi, tv5, tv7, h_1, h_3, c_5, c_6, c_7, h_11, q_15, q_38, c_39, q_50, c_51, reduceIte, Bool.false_eq_true, not_true_eq_false, not_false_eq_true]
                        exact g_lret hx hb hr hlocks hI ⟨_, rfl, by rw [e9], by rw [e9]; exact hM⟩ dX11_told_167 (Nat.le_of_ble_eq_true rfl) (Nat.le_of_ble_eq_true rfl)
            · rw [hG] at hI
              refine W.eq (g2 := F0 mI 119 ls [.int 0]) rfl ?_
              refine lv_if_ne (tgt := 128) hx hb dX11_told_119 (by decide) (fun c_60 => absurd c_60 (by decide)) (fun _ => ?_)
              refine lv_aload_n hx hb dX11_told_122 rfl (lv_at hl 3 rfl) ?_
              refine lv_iconst (v := 5) hx hb dX11_told_123 (by decide) ?_
              refine g_callV (own := RX11) (index := 90) (n := 1) hx hb hml hown hts (c_X11_refuseLong l E b0 _ mo ma _ hM 5 (vp_in_iff.mpr (by decide))) hM.1 rfl rfl m_ml_X11_90 m_im_X11_refuseLong m_se_X11_X11_refuseLong_X11_refuseLong m_in_X11 m_co_X11_refuseLong (by decide +kernel) ⟨Nat.le_of_ble_eq_true rfl, Nat.le_of_ble_eq_true rfl⟩ ⟨Nat.le_of_ble_eq_true rfl, Nat.le_of_ble_eq_true rfl⟩ rfl hl.1 rfl (Nat.le_of_ble_eq_true rfl) dX11_told_124 hK hI (fun r G1 H1 L1 hp hI => ?_)
              obtain ⟨v, rfl, ev, hM⟩ := hp
              subst ev
              refine W.eq (g2 := F0 mI 127 ls [.long (-9223372036854775708 + ((-10 - 5) : Int32).toInt64)]) rfl ?_
              have e9 : sp_told A s w = ((-9223372036854775708 + ((-10 - 5) : Int32).toInt64), (rfs A 5)) := by
                simp only [sp_told, rfi, rfj, tlo, thi, tv5, tv7, h_1, h_3, c_5, c_6, c_7, h_11, reduceIte, Bool.false_eq_true, not_true_eq_false, not_false_eq_true]
              exact g_lret hx hb hr hlocks hI ⟨_, rfl, by rw [e9], by rw [e9]; exact hM⟩ dX11_told_127 (Nat.le_of_ble_eq_true rfl) (Nat.le_of_ble_eq_true rfl)
          · have c_7 := Int32.not_le.mp c_7
            refine lv_iload_n hx hb dX11_told_52 rfl (lv_at hl 3 rfl) ?_
            refine lv_iconst (v := 4) hx hb dX11_told_53 (by decide) ?_
            refine lv_icmp_ne (tgt := 61) hx hb dX11_told_54 (by decide) (fun c_61 => ?_) (fun c_61 => ?_)
            · have q_62 := eqb_f c_61
              refine lv_iconst (v := 5) hx hb dX11_told_61 (by decide) ?_
              refine lv_goto (tgt := 67) hx hb dX11_told_62 (by decide) ?_
              refine lv_istore (lv' := [(4, .int 5), (3, .int (A 0 (ix s))), (0, .ref mo), (1, .int s), (2, .int w)]) hx hb dX11_told_67 hl (by decide) rfl (fun ls hl => ?_)
              refine lv_iload_n hx hb dX11_told_69 rfl (lv_at hl 4 rfl) ?_
              refine lv_iconst (v := 2) hx hb dX11_told_70 (by decide) ?_
              refine lv_icmp_ge (tgt := 78) hx hb dX11_told_71 (by decide) (fun _ => ?_) (fun c_63 => by have c_63 := Int32.not_le.mp c_63; first | exact absurd c_5 c_63 | exact absurd c_63 c_5)
              refine lv_iload_n hx hb dX11_told_78 rfl (lv_at hl 4 rfl) ?_
              refine lv_iconst (v := 4) hx hb dX11_told_79 (by decide) ?_
              refine lv_icmp_ge (tgt := 87) hx hb dX11_told_80 (by decide) (fun _ => ?_) (fun c_64 => by have c_64 := Int32.not_le.mp c_64; first | exact absurd c_6 c_64 | exact absurd c_64 c_6)
              refine lv_iload_n hx hb dX11_told_87 rfl (lv_at hl 4 rfl) ?_
              refine lv_bipush (v := 6) hx hb dX11_told_88 (by decide) ?_
              refine lv_icmp_ge (tgt := 106) hx hb dX11_told_90 (by decide) (fun c_65 => by have c_65 := Int32.not_lt.mpr c_65; first | exact absurd c_7 c_65 | exact absurd c_65 c_7) (fun _ => ?_)
              refine lv_iload_n hx hb dX11_told_93 rfl (lv_at hl 4 rfl) ?_
              refine lv_iconst (v := 4) hx hb dX11_told_94 (by decide) ?_
              refine lv_icmp_ne (tgt := 102) hx hb dX11_told_95 (by decide) (fun _ => ?_) (fun c_66 => by first | exact absurd c_61 c_66 | exact absurd c_66 c_61 | (simp_all; done))
              refine lv_iconst (v := 5) hx hb dX11_told_102 (by decide) ?_
              refine lv_goto (tgt := 108) hx hb dX11_told_103 (by decide) ?_
              refine lv_istore (lv' := [(5, .int 5), (4, .int 5), (3, .int (A 0 (ix s))), (0, .ref mo), (1, .int s), (2, .int w)]) hx hb dX11_told_108 hl (by decide) rfl (fun ls hl => ?_)
              refine lv_aload_n hx hb dX11_told_110 rfl (lv_at hl 3 rfl) ?_
              refine lv_iload_n hx hb dX11_told_111 rfl (lv_at hl 2 rfl) ?_
              refine lv_iload hx hb dX11_told_112 (lv_at hl 1 rfl) ?_
              refine lv_iload hx hb dX11_told_114 (lv_at hl 0 rfl) ?_
              refine g_callV (own := RX11) (index := 76) (n := 3) hx hb hml hown hts (c_X11_fits l E b0 _ mo ma _ hM (A 0 (ix s)) 5 5 (hw.sh (sh_in h_1))) hM.1 rfl rfl m_ml_X11_76 m_im_X11_fits m_se_X11_X11_fits_X11_fits m_in_X11 m_co_X11_fits (by decide +kernel) ⟨Nat.le_of_ble_eq_true rfl, Nat.le_of_ble_eq_true rfl⟩ ⟨Nat.le_of_ble_eq_true rfl, Nat.le_of_ble_eq_true rfl⟩ rfl hl.1 rfl (Nat.le_of_ble_eq_true rfl) dX11_told_116 hK hI (fun r G1 H1 L1 hp hI => ?_)
              obtain ⟨v, rfl, hG, ⟨h_67, rfl⟩ | ⟨h_67, rfl⟩⟩ := hp
              · rw [hG] at hI
                refine W.eq (g2 := F0 mI 119 ls [.int 1]) rfl ?_
                refine lv_if_ne (tgt := 128) hx hb dX11_told_119 (by decide) (fun _ => ?_) (fun c_68 => absurd c_68 (by decide))
                refine lv_iload_n hx hb dX11_told_128 rfl (lv_at hl 2 rfl) ?_
                refine lv_if_eq (tgt := 162) hx hb dX11_told_129 (by decide) (fun c_69 => ?_) (fun c_69 => ?_)
                · have q_70 := eqb_t c_69
                  refine lv_aload_n hx hb dX11_told_162 rfl (lv_at hl 3 rfl) ?_
                  refine lv_iconst (v := 1) hx hb dX11_told_163 (by decide) ?_
                  refine g_callV (own := RX11) (index := 90) (n := 1) hx hb hml hown hts (c_X11_refuseLong l E b0 _ mo ma _ hM 1 (vp_in_iff.mpr (by decide))) hM.1 rfl rfl m_ml_X11_90 m_im_X11_refuseLong m_se_X11_X11_refuseLong_X11_refuseLong m_in_X11 m_co_X11_refuseLong (by decide +kernel) ⟨Nat.le_of_ble_eq_true rfl, Nat.le_of_ble_eq_true rfl⟩ ⟨Nat.le_of_ble_eq_true rfl, Nat.le_of_ble_eq_true rfl⟩ rfl hl.1 rfl (Nat.le_of_ble_eq_true rfl) dX11_told_164 hK hI (fun r G1 H1 L1 hp hI => ?_)
                  obtain ⟨v, rfl, ev, hM⟩ := hp
                  subst ev
                  refine W.eq (g2 := F0 mI 167 ls [.long (-9223372036854775708 + ((-10 - 1) : Int32).toInt64)]) rfl ?_
                  have e9 : sp_told A s w = ((-9223372036854775708 + ((-10 - 1) : Int32).toInt64), (rfs A 1)) := by
                    simp only [sp_told, rfi, rfj, tlo, thi, tv5, tv7, h_1, h_3, c_5, c_6, c_7, q_62, h_67, q_70, reduceIte, Bool.false_eq_true, not_true_eq_false, not_false_eq_true]
                  exact g_lret hx hb hr hlocks hI ⟨_, rfl, by rw [e9], by rw [e9]; exact hM⟩ dX11_told_167 (Nat.le_of_ble_eq_true rfl) (Nat.le_of_ble_eq_true rfl)
                · have q_71 := eqb_f c_69
                  refine lv_iload_n hx hb dX11_told_132 rfl (lv_at hl 5 rfl) ?_
                  refine lv_bipush (v := 6) hx hb dX11_told_133 (by decide) ?_
                  refine lv_icmp_ne (tgt := 147) hx hb dX11_told_135 (by decide) (fun c_72 => ?_) (fun c_72 => ?_)
                  · have q_73 := eqb_f c_72
                    refine lv_iload_n hx hb dX11_told_147 rfl (lv_at hl 5 rfl) ?_
                    refine lv_bipush (v := 7) hx hb dX11_told_148 (by decide) ?_
                    refine lv_icmp_ne (tgt := 168) hx hb dX11_told_150 (by decide) (fun c_74 => ?_) (fun c_74 => ?_)
                    · have q_75 := eqb_f c_74
                      refine lv_iload_n hx hb dX11_told_168 rfl (lv_at hl 5 rfl) ?_
                      refine lv_iconst (v := 5) hx hb dX11_told_169 (by decide) ?_
                      refine lv_icmp_le (tgt := 197) hx hb dX11_told_170 (by decide) (fun c_76 => ?_) (fun c_76 => ?_)
                      · have c_76 := Int32.not_lt.mpr c_76
                        refine lv_iload_n hx hb dX11_told_197 rfl (lv_at hl 5 rfl) ?_
                        refine lv_iconst (v := 1) hx hb dX11_told_198 (by decide) ?_
                        refine lv_icmp_eq (tgt := 207) hx hb dX11_told_199 (by decide) (fun c_77 => ?_) (fun c_77 => ?_)
                        · have q_78 := eqb_t c_77
                          refine lv_aload_n hx hb dX11_told_207 rfl (lv_at hl 3 rfl) ?_
                          refine x_get (index := 19) hx hb hts hown hK hI hM 4 (by decide) m_fl_X11_19 rfl dX11_told_208 rfl ?_
                          refine lv_iload_n hx hb dX11_told_211 rfl (lv_at hl 2 rfl) ?_
                          refine x_ld hx hb hK hI hM 4 (by decide) (hw.sh (sh_in h_1)) dX11_told_212 ?_
                          refine lv_i2l hx hb dX11_told_213 rfl ?_
                          refine lv_goto (tgt := 224) hx hb dX11_told_214 (by decide) ?_
                          have e9 : sp_told A s w = ((((A 4 (ix (A 0 (ix s)))) : Int32).toInt64), A) := by
                            simp only [sp_told, rfi, rfj, tlo, thi, tv5, tv7, h_1, h_3, c_5, c_6, c_7, q_62, h_67, q_71, q_73, q_75, c_76, q_78, reduceIte, Bool.false_eq_true, not_true_eq_false, not_false_eq_true]
                          exact g_lret hx hb hr hlocks hI ⟨_, rfl, by rw [e9], by rw [e9]; exact hM⟩ dX11_told_224 (Nat.le_of_ble_eq_true rfl) (Nat.le_of_ble_eq_true rfl)
                        · have q_79 := eqb_f c_77
                          refine lv_iload_n hx hb dX11_told_202 rfl (lv_at hl 5 rfl) ?_
                          refine lv_iconst (v := 3) hx hb dX11_told_203 (by decide) ?_
                          refine lv_icmp_ne (tgt := 217) hx hb dX11_told_204 (by decide) (fun c_80 => ?_) (fun c_80 => ?_)
                          · have q_81 := eqb_f c_80
                            refine lv_aload_n hx hb dX11_told_217 rfl (lv_at hl 3 rfl) ?_
                            refine x_get (index := 16) hx hb hts hown hK hI hM 3 (by decide) m_fl_X11_16 rfl dX11_told_218 rfl ?_
                            refine lv_iload_n hx hb dX11_told_221 rfl (lv_at hl 2 rfl) ?_
                            refine x_ld hx hb hK hI hM 3 (by decide) (hw.sh (sh_in h_1)) dX11_told_222 ?_
                            refine lv_i2l hx hb dX11_told_223 rfl ?_
                            have e9 : sp_told A s w = ((((A 3 (ix (A 0 (ix s)))) : Int32).toInt64), A) := by
                              simp only [sp_told, rfi, rfj, tlo, thi, tv5, tv7, h_1, h_3, c_5, c_6, c_7, q_62, h_67, q_71, q_73, q_75, c_76, q_79, q_81, reduceIte, Bool.false_eq_true, not_true_eq_false, not_false_eq_true]
                            exact g_lret hx hb hr hlocks hI ⟨_, rfl, by rw [e9], by rw [e9]; exact hM⟩ dX11_told_224 (Nat.le_of_ble_eq_true rfl) (Nat.le_of_ble_eq_true rfl)
                          · have q_82 := eqb_t c_80
                            refine lv_aload_n hx hb dX11_told_207 rfl (lv_at hl 3 rfl) ?_
                            refine x_get (index := 19) hx hb hts hown hK hI hM 4 (by decide) m_fl_X11_19 rfl dX11_told_208 rfl ?_
                            refine lv_iload_n hx hb dX11_told_211 rfl (lv_at hl 2 rfl) ?_
                            refine x_ld hx hb hK hI hM 4 (by decide) (hw.sh (sh_in h_1)) dX11_told_212 ?_
                            refine lv_i2l hx hb dX11_told_213 rfl ?_
                            refine lv_goto (tgt := 224) hx hb dX11_told_214 (by decide) ?_
                            have e9 : sp_told A s w = ((((A 4 (ix (A 0 (ix s)))) : Int32).toInt64), A) := by
                              simp only [sp_told, rfi, rfj, tlo, thi, tv5, tv7, h_1, h_3, c_5, c_6, c_7, q_62, h_67, q_71, q_73, q_75, c_76, q_79, q_82, reduceIte, Bool.false_eq_true, not_true_eq_false, not_false_eq_true]
                            exact g_lret hx hb hr hlocks hI ⟨_, rfl, by rw [e9], by rw [e9]; exact hM⟩ dX11_told_224 (Nat.le_of_ble_eq_true rfl) (Nat.le_of_ble_eq_true rfl)
                      · have c_76 := Int32.not_le.mp c_76
                        refine lv_iload_n hx hb dX11_told_173 rfl (lv_at hl 5 rfl) ?_
                        refine lv_bipush (v := 6) hx hb dX11_told_174 (by decide) ?_
                        refine lv_icmp_ne (tgt := 189) hx hb dX11_told_176 (by decide) (fun _ => ?_) (fun c_83 => by first | exact absurd c_72 c_83 | exact absurd c_83 c_72 | (simp_all; done))
                        refine lv_aload_n hx hb dX11_told_189 rfl (lv_at hl 3 rfl) ?_
                        refine x_get (index := 28) hx hb hts hown hK hI hM 7 (by decide) m_fl_X11_28 rfl dX11_told_190 rfl ?_
                        refine lv_iload_n hx hb dX11_told_193 rfl (lv_at hl 2 rfl) ?_
                        refine x_ld hx hb hK hI hM 7 (by decide) (hw.sh (sh_in h_1)) dX11_told_194 ?_
                        refine lv_i2l hx hb dX11_told_195 rfl ?_
                        have e9 : sp_told A s w = ((((A 7 (ix (A 0 (ix s)))) : Int32).toInt64), A) := by
                          simp only [sp_told, rfi, rfj, tlo, thi, tv5, tv7, h_1, h_3, c_5, c_6, c_7, q_62, h_67, q_71, q_73, q_75, c_76, reduceIte, Bool.false_eq_true, not_true_eq_false, not_false_eq_true]
                        exact g_lret hx hb hr hlocks hI ⟨_, rfl, by rw [e9], by rw [e9]; exact hM⟩ dX11_told_196 (Nat.le_of_ble_eq_true rfl) (Nat.le_of_ble_eq_true rfl)
                    · have q_84 := eqb_t c_74
                      refine lv_aload_n hx hb dX11_told_153 rfl (lv_at hl 3 rfl) ?_
                      refine x_get (index := 28) hx hb hts hown hK hI hM 7 (by decide) m_fl_X11_28 rfl dX11_told_154 rfl ?_
                      refine lv_iload_n hx hb dX11_told_157 rfl (lv_at hl 2 rfl) ?_
                      refine x_ld hx hb hK hI hM 7 (by decide) (hw.sh (sh_in h_1)) dX11_told_158 ?_
                      refine lv_if_ge (tgt := 168) hx hb dX11_told_159 (by decide) (fun c_85 => ?_) (fun c_85 => ?_)
                      · have c_85 := Int32.not_lt.mpr c_85
                        refine lv_iload_n hx hb dX11_told_168 rfl (lv_at hl 5 rfl) ?_
                        refine lv_iconst (v := 5) hx hb dX11_told_169 (by decide) ?_
                        refine lv_icmp_le (tgt := 197) hx hb dX11_told_170 (by decide) (fun c_86 => ?_) (fun c_86 => ?_)
                        · have c_86 := Int32.not_lt.mpr c_86
                          refine lv_iload_n hx hb dX11_told_197 rfl (lv_at hl 5 rfl) ?_
                          refine lv_iconst (v := 1) hx hb dX11_told_198 (by decide) ?_
                          refine lv_icmp_eq (tgt := 207) hx hb dX11_told_199 (by decide) (fun c_87 => ?_) (fun c_87 => ?_)
                          · have q_88 := eqb_t c_87
                            refine lv_aload_n hx hb dX11_told_207 rfl (lv_at hl 3 rfl) ?_
                            refine x_get (index := 19) hx hb hts hown hK hI hM 4 (by decide) m_fl_X11_19 rfl dX11_told_208 rfl ?_
                            refine lv_iload_n hx hb dX11_told_211 rfl (lv_at hl 2 rfl) ?_
                            refine x_ld hx hb hK hI hM 4 (by decide) (hw.sh (sh_in h_1)) dX11_told_212 ?_
                            refine lv_i2l hx hb dX11_told_213 rfl ?_
                            refine lv_goto (tgt := 224) hx hb dX11_told_214 (by decide) ?_
                            have e9 : sp_told A s w = ((((A 4 (ix (A 0 (ix s)))) : Int32).toInt64), A) := by
                              simp only [sp_told, rfi, rfj, tlo, thi, tv5, tv7, h_1, h_3, c_5, c_6, c_7, q_62, h_67, q_71, q_73, q_84, c_85, c_86, q_88, reduceIte, Bool.false_eq_true, not_true_eq_false, not_false_eq_true]
                            exact g_lret hx hb hr hlocks hI ⟨_, rfl, by rw [e9], by rw [e9]; exact hM⟩ dX11_told_224 (Nat.le_of_ble_eq_true rfl) (Nat.le_of_ble_eq_true rfl)
                          · have q_89 := eqb_f c_87
                            refine lv_iload_n hx hb dX11_told_202 rfl (lv_at hl 5 rfl) ?_
                            refine lv_iconst (v := 3) hx hb dX11_told_203 (by decide) ?_
                            refine lv_icmp_ne (tgt := 217) hx hb dX11_told_204 (by decide) (fun c_90 => ?_) (fun c_90 => ?_)
                            · have q_91 := eqb_f c_90
                              refine lv_aload_n hx hb dX11_told_217 rfl (lv_at hl 3 rfl) ?_
                              refine x_get (index := 16) hx hb hts hown hK hI hM 3 (by decide) m_fl_X11_16 rfl dX11_told_218 rfl ?_
                              refine lv_iload_n hx hb dX11_told_221 rfl (lv_at hl 2 rfl) ?_
                              refine x_ld hx hb hK hI hM 3 (by decide) (hw.sh (sh_in h_1)) dX11_told_222 ?_
                              refine lv_i2l hx hb dX11_told_223 rfl ?_
                              have e9 : sp_told A s w = ((((A 3 (ix (A 0 (ix s)))) : Int32).toInt64), A) := by
                                simp only [sp_told, rfi, rfj, tlo, thi, tv5, tv7, h_1, h_3, c_5, c_6, c_7, q_62, h_67, q_71, q_73, q_84, c_85, c_86, q_89, q_91, reduceIte, Bool.false_eq_true, not_true_eq_false, not_false_eq_true]
                              exact g_lret hx hb hr hlocks hI ⟨_, rfl, by rw [e9], by rw [e9]; exact hM⟩ dX11_told_224 (Nat.le_of_ble_eq_true rfl) (Nat.le_of_ble_eq_true rfl)
                            · have q_92 := eqb_t c_90
                              refine lv_aload_n hx hb dX11_told_207 rfl (lv_at hl 3 rfl) ?_
                              refine x_get (index := 19) hx hb hts hown hK hI hM 4 (by decide) m_fl_X11_19 rfl dX11_told_208 rfl ?_
                              refine lv_iload_n hx hb dX11_told_211 rfl (lv_at hl 2 rfl) ?_
                              refine x_ld hx hb hK hI hM 4 (by decide) (hw.sh (sh_in h_1)) dX11_told_212 ?_
                              refine lv_i2l hx hb dX11_told_213 rfl ?_
                              refine lv_goto (tgt := 224) hx hb dX11_told_214 (by decide) ?_
                              have e9 : sp_told A s w = ((((A 4 (ix (A 0 (ix s)))) : Int32).toInt64), A) := by
                                simp only [sp_told, rfi, rfj, tlo, thi, tv5, tv7, h_1, h_3, c_5, c_6, c_7, q_62, h_67, q_71, q_73, q_84, c_85, c_86, q_89, q_92, reduceIte, Bool.false_eq_true, not_true_eq_false, not_false_eq_true]
                              exact g_lret hx hb hr hlocks hI ⟨_, rfl, by rw [e9], by rw [e9]; exact hM⟩ dX11_told_224 (Nat.le_of_ble_eq_true rfl) (Nat.le_of_ble_eq_true rfl)
                        · have c_86 := Int32.not_le.mp c_86
                          refine lv_iload_n hx hb dX11_told_173 rfl (lv_at hl 5 rfl) ?_
                          refine lv_bipush (v := 6) hx hb dX11_told_174 (by decide) ?_
                          refine lv_icmp_ne (tgt := 189) hx hb dX11_told_176 (by decide) (fun _ => ?_) (fun c_93 => by first | exact absurd c_72 c_93 | exact absurd c_93 c_72 | (simp_all; done))
                          refine lv_aload_n hx hb dX11_told_189 rfl (lv_at hl 3 rfl) ?_
                          refine x_get (index := 28) hx hb hts hown hK hI hM 7 (by decide) m_fl_X11_28 rfl dX11_told_190 rfl ?_
                          refine lv_iload_n hx hb dX11_told_193 rfl (lv_at hl 2 rfl) ?_
                          refine x_ld hx hb hK hI hM 7 (by decide) (hw.sh (sh_in h_1)) dX11_told_194 ?_
                          refine lv_i2l hx hb dX11_told_195 rfl ?_
                          have e9 : sp_told A s w = ((((A 7 (ix (A 0 (ix s)))) : Int32).toInt64), A) := by
                            simp only [sp_told, rfi, rfj, tlo, thi, tv5, tv7, h_1, h_3, c_5, c_6, c_7, q_62, h_67, q_71, q_73, q_84, c_85, c_86, reduceIte, Bool.false_eq_true, not_true_eq_false, not_false_eq_true]
                          exact g_lret hx hb hr hlocks hI ⟨_, rfl, by rw [e9], by rw [e9]; exact hM⟩ dX11_told_196 (Nat.le_of_ble_eq_true rfl) (Nat.le_of_ble_eq_true rfl)
                      · have c_85 := Int32.not_le.mp c_85
                        refine lv_aload_n hx hb dX11_told_162 rfl (lv_at hl 3 rfl) ?_
                        refine lv_iconst (v := 1) hx hb dX11_told_163 (by decide) ?_
                        refine g_callV (own := RX11) (index := 90) (n := 1) hx hb hml hown hts (c_X11_refuseLong l E b0 _ mo ma _ hM 1 (vp_in_iff.mpr (by decide))) hM.1 rfl rfl m_ml_X11_90 m_im_X11_refuseLong m_se_X11_X11_refuseLong_X11_refuseLong m_in_X11 m_co_X11_refuseLong (by decide +kernel) ⟨Nat.le_of_ble_eq_true rfl, Nat.le_of_ble_eq_true rfl⟩ ⟨Nat.le_of_ble_eq_true rfl, Nat.le_of_ble_eq_true rfl⟩ rfl hl.1 rfl (Nat.le_of_ble_eq_true rfl) dX11_told_164 hK hI (fun r G1 H1 L1 hp hI => ?_)
                        obtain ⟨v, rfl, ev, hM⟩ := hp
                        subst ev
                        refine W.eq (g2 := F0 mI 167 ls [.long (-9223372036854775708 + ((-10 - 1) : Int32).toInt64)]) rfl ?_
                        have e9 : sp_told A s w = ((-9223372036854775708 + ((-10 - 1) : Int32).toInt64), (rfs A 1)) := by
                          simp only [sp_told, rfi, rfj, tlo, thi, tv5, tv7, h_1, h_3, c_5, c_6, c_7, q_62, h_67, q_71, q_73, q_84, c_85, reduceIte, Bool.false_eq_true, not_true_eq_false, not_false_eq_true]
                        exact g_lret hx hb hr hlocks hI ⟨_, rfl, by rw [e9], by rw [e9]; exact hM⟩ dX11_told_167 (Nat.le_of_ble_eq_true rfl) (Nat.le_of_ble_eq_true rfl)
                  · have q_94 := eqb_t c_72
                    refine lv_aload_n hx hb dX11_told_138 rfl (lv_at hl 3 rfl) ?_
                    refine x_get (index := 22) hx hb hts hown hK hI hM 5 (by decide) m_fl_X11_22 rfl dX11_told_139 rfl ?_
                    refine lv_iload_n hx hb dX11_told_142 rfl (lv_at hl 2 rfl) ?_
                    refine x_ld hx hb hK hI hM 5 (by decide) (hw.sh (sh_in h_1)) dX11_told_143 ?_
                    refine lv_if_lt (tgt := 162) hx hb dX11_told_144 (by decide) (fun c_95 => ?_) (fun c_95 => ?_)
                    · refine lv_aload_n hx hb dX11_told_162 rfl (lv_at hl 3 rfl) ?_
                      refine lv_iconst (v := 1) hx hb dX11_told_163 (by decide) ?_
                      refine g_callV (own := RX11) (index := 90) (n := 1) hx hb hml hown hts (c_X11_refuseLong l E b0 _ mo ma _ hM 1 (vp_in_iff.mpr (by decide))) hM.1 rfl rfl m_ml_X11_90 m_im_X11_refuseLong m_se_X11_X11_refuseLong_X11_refuseLong m_in_X11 m_co_X11_refuseLong (by decide +kernel) ⟨Nat.le_of_ble_eq_true rfl, Nat.le_of_ble_eq_true rfl⟩ ⟨Nat.le_of_ble_eq_true rfl, Nat.le_of_ble_eq_true rfl⟩ rfl hl.1 rfl (Nat.le_of_ble_eq_true rfl) dX11_told_164 hK hI (fun r G1 H1 L1 hp hI => ?_)
                      obtain ⟨v, rfl, ev, hM⟩ := hp
                      subst ev
                      refine W.eq (g2 := F0 mI 167 ls [.long (-9223372036854775708 + ((-10 - 1) : Int32).toInt64)]) rfl ?_
                      have e9 : sp_told A s w = ((-9223372036854775708 + ((-10 - 1) : Int32).toInt64), (rfs A 1)) := by
                        simp only [sp_told, rfi, rfj, tlo, thi, tv5, tv7, h_1, h_3, c_5, c_6, c_7, q_62, h_67, q_71, q_94, c_95, reduceIte, Bool.false_eq_true, not_true_eq_false, not_false_eq_true]
                      exact g_lret hx hb hr hlocks hI ⟨_, rfl, by rw [e9], by rw [e9]; exact hM⟩ dX11_told_167 (Nat.le_of_ble_eq_true rfl) (Nat.le_of_ble_eq_true rfl)
                    · refine lv_iload_n hx hb dX11_told_147 rfl (lv_at hl 5 rfl) ?_
                      refine lv_bipush (v := 7) hx hb dX11_told_148 (by decide) ?_
                      refine lv_icmp_ne (tgt := 168) hx hb dX11_told_150 (by decide) (fun c_96 => ?_) (fun c_96 => ?_)
                      · have q_97 := eqb_f c_96
                        refine lv_iload_n hx hb dX11_told_168 rfl (lv_at hl 5 rfl) ?_
                        refine lv_iconst (v := 5) hx hb dX11_told_169 (by decide) ?_
                        refine lv_icmp_le (tgt := 197) hx hb dX11_told_170 (by decide) (fun c_98 => ?_) (fun c_98 => ?_)
                        · have c_98 := Int32.not_lt.mpr c_98
                          refine lv_iload_n hx hb dX11_told_197 rfl (lv_at hl 5 rfl) ?_
                          refine lv_iconst (v := 1) hx hb dX11_told_198 (by decide) ?_
                          refine lv_icmp_eq (tgt := 207) hx hb dX11_told_199 (by decide) (fun c_99 => ?_) (fun c_99 => ?_)
                          · have q_100 := eqb_t c_99
                            refine lv_aload_n hx hb dX11_told_207 rfl (lv_at hl 3 rfl) ?_
                            refine x_get (index := 19) hx hb hts hown hK hI hM 4 (by decide) m_fl_X11_19 rfl dX11_told_208 rfl ?_
                            refine lv_iload_n hx hb dX11_told_211 rfl (lv_at hl 2 rfl) ?_
                            refine x_ld hx hb hK hI hM 4 (by decide) (hw.sh (sh_in h_1)) dX11_told_212 ?_
                            refine lv_i2l hx hb dX11_told_213 rfl ?_
                            refine lv_goto (tgt := 224) hx hb dX11_told_214 (by decide) ?_
                            have e9 : sp_told A s w = ((((A 4 (ix (A 0 (ix s)))) : Int32).toInt64), A) := by
                              simp only [sp_told, rfi, rfj, tlo, thi, tv5, tv7, h_1, h_3, c_5, c_6, c_7, q_62, h_67, q_71, q_94, c_95, q_97, c_98, q_100, reduceIte, Bool.false_eq_true, not_true_eq_false, not_false_eq_true]
                            exact g_lret hx hb hr hlocks hI ⟨_, rfl, by rw [e9], by rw [e9]; exact hM⟩ dX11_told_224 (Nat.le_of_ble_eq_true rfl) (Nat.le_of_ble_eq_true rfl)
                          · have q_101 := eqb_f c_99
                            refine lv_iload_n hx hb dX11_told_202 rfl (lv_at hl 5 rfl) ?_
                            refine lv_iconst (v := 3) hx hb dX11_told_203 (by decide) ?_
                            refine lv_icmp_ne (tgt := 217) hx hb dX11_told_204 (by decide) (fun c_102 => ?_) (fun c_102 => ?_)
                            · have q_103 := eqb_f c_102
                              refine lv_aload_n hx hb dX11_told_217 rfl (lv_at hl 3 rfl) ?_
                              refine x_get (index := 16) hx hb hts hown hK hI hM 3 (by decide) m_fl_X11_16 rfl dX11_told_218 rfl ?_
                              refine lv_iload_n hx hb dX11_told_221 rfl (lv_at hl 2 rfl) ?_
                              refine x_ld hx hb hK hI hM 3 (by decide) (hw.sh (sh_in h_1)) dX11_told_222 ?_
                              refine lv_i2l hx hb dX11_told_223 rfl ?_
                              have e9 : sp_told A s w = ((((A 3 (ix (A 0 (ix s)))) : Int32).toInt64), A) := by
                                simp only [sp_told, rfi, rfj, tlo, thi, tv5, tv7, h_1, h_3, c_5, c_6, c_7, q_62, h_67, q_71, q_94, c_95, q_97, c_98, q_101, q_103, reduceIte, Bool.false_eq_true, not_true_eq_false, not_false_eq_true]
                              exact g_lret hx hb hr hlocks hI ⟨_, rfl, by rw [e9], by rw [e9]; exact hM⟩ dX11_told_224 (Nat.le_of_ble_eq_true rfl) (Nat.le_of_ble_eq_true rfl)
                            · have q_104 := eqb_t c_102
                              refine lv_aload_n hx hb dX11_told_207 rfl (lv_at hl 3 rfl) ?_
                              refine x_get (index := 19) hx hb hts hown hK hI hM 4 (by decide) m_fl_X11_19 rfl dX11_told_208 rfl ?_
                              refine lv_iload_n hx hb dX11_told_211 rfl (lv_at hl 2 rfl) ?_
                              refine x_ld hx hb hK hI hM 4 (by decide) (hw.sh (sh_in h_1)) dX11_told_212 ?_
                              refine lv_i2l hx hb dX11_told_213 rfl ?_
                              refine lv_goto (tgt := 224) hx hb dX11_told_214 (by decide) ?_
                              have e9 : sp_told A s w = ((((A 4 (ix (A 0 (ix s)))) : Int32).toInt64), A) := by
                                simp only [sp_told, rfi, rfj, tlo, thi, tv5, tv7, h_1, h_3, c_5, c_6, c_7, q_62, h_67, q_71, q_94, c_95, q_97, c_98, q_101, q_104, reduceIte, Bool.false_eq_true, not_true_eq_false, not_false_eq_true]
                              exact g_lret hx hb hr hlocks hI ⟨_, rfl, by rw [e9], by rw [e9]; exact hM⟩ dX11_told_224 (Nat.le_of_ble_eq_true rfl) (Nat.le_of_ble_eq_true rfl)
                        · have c_98 := Int32.not_le.mp c_98
                          refine lv_iload_n hx hb dX11_told_173 rfl (lv_at hl 5 rfl) ?_
                          refine lv_bipush (v := 6) hx hb dX11_told_174 (by decide) ?_
                          refine lv_icmp_ne (tgt := 189) hx hb dX11_told_176 (by decide) (fun c_105 => by first | exact absurd c_72 c_105 | exact absurd c_105 c_72 | (simp_all; done)) (fun _ => ?_)
                          refine lv_aload_n hx hb dX11_told_179 rfl (lv_at hl 3 rfl) ?_
                          refine x_get (index := 22) hx hb hts hown hK hI hM 5 (by decide) m_fl_X11_22 rfl dX11_told_180 rfl ?_
                          refine lv_iload_n hx hb dX11_told_183 rfl (lv_at hl 2 rfl) ?_
                          refine x_ld hx hb hK hI hM 5 (by decide) (hw.sh (sh_in h_1)) dX11_told_184 ?_
                          refine lv_i2l hx hb dX11_told_185 rfl ?_
                          refine lv_goto (tgt := 196) hx hb dX11_told_186 (by decide) ?_
                          have e9 : sp_told A s w = ((((A 5 (ix (A 0 (ix s)))) : Int32).toInt64), A) := by
                            simp only [sp_told, rfi, rfj, tlo, thi, tv5, tv7, h_1, h_3, c_5, c_6, c_7, q_62, h_67, q_71, q_94, c_95, q_97, c_98, reduceIte, Bool.false_eq_true, not_true_eq_false, not_false_eq_true]
                          exact g_lret hx hb hr hlocks hI ⟨_, rfl, by rw [e9], by rw [e9]; exact hM⟩ dX11_told_196 (Nat.le_of_ble_eq_true rfl) (Nat.le_of_ble_eq_true rfl)
                      · have q_106 := eqb_t c_96
                        refine lv_aload_n hx hb dX11_told_153 rfl (lv_at hl 3 rfl) ?_
                        refine x_get (index := 28) hx hb hts hown hK hI hM 7 (by decide) m_fl_X11_28 rfl dX11_told_154 rfl ?_
                        refine lv_iload_n hx hb dX11_told_157 rfl (lv_at hl 2 rfl) ?_
                        refine x_ld hx hb hK hI hM 7 (by decide) (hw.sh (sh_in h_1)) dX11_told_158 ?_
                        refine lv_if_ge (tgt := 168) hx hb dX11_told_159 (by decide) (fun c_107 => ?_) (fun c_107 => ?_)
                        · have c_107 := Int32.not_lt.mpr c_107
                          refine lv_iload_n hx hb dX11_told_168 rfl (lv_at hl 5 rfl) ?_
                          refine lv_iconst (v := 5) hx hb dX11_told_169 (by decide) ?_
                          refine lv_icmp_le (tgt := 197) hx hb dX11_told_170 (by decide) (fun c_108 => ?_) (fun c_108 => ?_)
                          · have c_108 := Int32.not_lt.mpr c_108
                            refine lv_iload_n hx hb dX11_told_197 rfl (lv_at hl 5 rfl) ?_
                            refine lv_iconst (v := 1) hx hb dX11_told_198 (by decide) ?_
                            refine lv_icmp_eq (tgt := 207) hx hb dX11_told_199 (by decide) (fun c_109 => ?_) (fun c_109 => ?_)
                            · have q_110 := eqb_t c_109
                              refine lv_aload_n hx hb dX11_told_207 rfl (lv_at hl 3 rfl) ?_
                              refine x_get (index := 19) hx hb hts hown hK hI hM 4 (by decide) m_fl_X11_19 rfl dX11_told_208 rfl ?_
                              refine lv_iload_n hx hb dX11_told_211 rfl (lv_at hl 2 rfl) ?_
                              refine x_ld hx hb hK hI hM 4 (by decide) (hw.sh (sh_in h_1)) dX11_told_212 ?_
                              refine lv_i2l hx hb dX11_told_213 rfl ?_
                              refine lv_goto (tgt := 224) hx hb dX11_told_214 (by decide) ?_
                              have e9 : sp_told A s w = ((((A 4 (ix (A 0 (ix s)))) : Int32).toInt64), A) := by
                                simp only [sp_told, rfi, rfj, tlo, thi, tv5, tv7, h_1, h_3, c_5, c_6, c_7, q_62, h_67, q_71, q_94, c_95, q_106, c_107, c_108, q_110, reduceIte, Bool.false_eq_true, not_true_eq_false, not_false_eq_true]
                              exact g_lret hx hb hr hlocks hI ⟨_, rfl, by rw [e9], by rw [e9]; exact hM⟩ dX11_told_224 (Nat.le_of_ble_eq_true rfl) (Nat.le_of_ble_eq_true rfl)
                            · have q_111 := eqb_f c_109
                              refine lv_iload_n hx hb dX11_told_202 rfl (lv_at hl 5 rfl) ?_
                              refine lv_iconst (v := 3) hx hb dX11_told_203 (by decide) ?_
                              refine lv_icmp_ne (tgt := 217) hx hb dX11_told_204 (by decide) (fun c_112 => ?_) (fun c_112 => ?_)
                              · have q_113 := eqb_f c_112
                                refine lv_aload_n hx hb dX11_told_217 rfl (lv_at hl 3 rfl) ?_
                                refine x_get (index := 16) hx hb hts hown hK hI hM 3 (by decide) m_fl_X11_16 rfl dX11_told_218 rfl ?_
                                refine lv_iload_n hx hb dX11_told_221 rfl (lv_at hl 2 rfl) ?_
                                refine x_ld hx hb hK hI hM 3 (by decide) (hw.sh (sh_in h_1)) dX11_told_222 ?_
                                refine lv_i2l hx hb dX11_told_223 rfl ?_
                                have e9 : sp_told A s w = ((((A 3 (ix (A 0 (ix s)))) : Int32).toInt64), A) := by
                                  simp only [sp_told, rfi, rfj, tlo, thi, tv5, tv7, h_1, h_3, c_5, c_6, c_7, q_62, h_67, q_71, q_94, c_95, q_106, c_107, c_108, q_111, q_113, reduceIte, Bool.false_eq_true, not_true_eq_false, not_false_eq_true]
                                exact g_lret hx hb hr hlocks hI ⟨_, rfl, by rw [e9], by rw [e9]; exact hM⟩ dX11_told_224 (Nat.le_of_ble_eq_true rfl) (Nat.le_of_ble_eq_true rfl)
                              · have q_114 := eqb_t c_112
                                refine lv_aload_n hx hb dX11_told_207 rfl (lv_at hl 3 rfl) ?_
                                refine x_get (index := 19) hx hb hts hown hK hI hM 4 (by decide) m_fl_X11_19 rfl dX11_told_208 rfl ?_
                                refine lv_iload_n hx hb dX11_told_211 rfl (lv_at hl 2 rfl) ?_
                                refine x_ld hx hb hK hI hM 4 (by decide) (hw.sh (sh_in h_1)) dX11_told_212 ?_
                                refine lv_i2l hx hb dX11_told_213 rfl ?_
                                refine lv_goto (tgt := 224) hx hb dX11_told_214 (by decide) ?_
                                have e9 : sp_told A s w = ((((A 4 (ix (A 0 (ix s)))) : Int32).toInt64), A) := by
                                  simp only [sp_told, rfi, rfj, tlo, thi, tv5, tv7, h_1, h_3, c_5, c_6, c_7, q_62, h_67, q_71, q_94, c_95, q_106, c_107, c_108, q_111, q_114, reduceIte, Bool.false_eq_true, not_true_eq_false, not_false_eq_true]
                                exact g_lret hx hb hr hlocks hI ⟨_, rfl, by rw [e9], by rw [e9]; exact hM⟩ dX11_told_224 (Nat.le_of_ble_eq_true rfl) (Nat.le_of_ble_eq_true rfl)
                          · have c_108 := Int32.not_le.mp c_108
                            refine lv_iload_n hx hb dX11_told_173 rfl (lv_at hl 5 rfl) ?_
                            refine lv_bipush (v := 6) hx hb dX11_told_174 (by decide) ?_
                            refine lv_icmp_ne (tgt := 189) hx hb dX11_told_176 (by decide) (fun c_115 => by first | exact absurd c_72 c_115 | exact absurd c_115 c_72 | (simp_all; done)) (fun _ => ?_)
                            refine lv_aload_n hx hb dX11_told_179 rfl (lv_at hl 3 rfl) ?_
                            refine x_get (index := 22) hx hb hts hown hK hI hM 5 (by decide) m_fl_X11_22 rfl dX11_told_180 rfl ?_
                            refine lv_iload_n hx hb dX11_told_183 rfl (lv_at hl 2 rfl) ?_
                            refine x_ld hx hb hK hI hM 5 (by decide) (hw.sh (sh_in h_1)) dX11_told_184 ?_
                            refine lv_i2l hx hb dX11_told_185 rfl ?_
                            refine lv_goto (tgt := 196) hx hb dX11_told_186 (by decide) ?_
                            have e9 : sp_told A s w = ((((A 5 (ix (A 0 (ix s)))) : Int32).toInt64), A) := by
                              simp only [sp_told, rfi, rfj, tlo, thi, tv5, tv7, h_1, h_3, c_5, c_6, c_7, q_62, h_67, q_71, q_94, c_95, q_106, c_107, c_108, reduceIte, Bool.false_eq_true, not_true_eq_false, not_false_eq_true]
                            exact g_lret hx hb hr hlocks hI ⟨_, rfl, by rw [e9], by rw [e9]; exact hM⟩ dX11_told_196 (Nat.le_of_ble_eq_true rfl) (Nat.le_of_ble_eq_true rfl)
                        · have c_107 := Int32.not_le.mp c_107
                          refine lv_aload_n hx hb dX11_told_162 rfl (lv_at hl 3 rfl) ?_
                          refine lv_iconst (v := 1) hx hb dX11_told_163 (by decide) ?_
                          refine g_callV (own := RX11) (index := 90) (n := 1) hx hb hml hown hts (c_X11_refuseLong l E b0 _ mo ma _ hM 1 (vp_in_iff.mpr (by decide))) hM.1 rfl rfl m_ml_X11_90 m_im_X11_refuseLong m_se_X11_X11_refuseLong_X11_refuseLong m_in_X11 m_co_X11_refuseLong (by decide +kernel) ⟨Nat.le_of_ble_eq_true rfl, Nat.le_of_ble_eq_true rfl⟩ ⟨Nat.le_of_ble_eq_true rfl, Nat.le_of_ble_eq_true rfl⟩ rfl hl.1 rfl (Nat.le_of_ble_eq_true rfl) dX11_told_164 hK hI (fun r G1 H1 L1 hp hI => ?_)
                          obtain ⟨v, rfl, ev, hM⟩ := hp
                          subst ev
                          refine W.eq (g2 := F0 mI 167 ls [.long (-9223372036854775708 + ((-10 - 1) : Int32).toInt64)]) rfl ?_
                          have e9 : sp_told A s w = ((-9223372036854775708 + ((-10 - 1) : Int32).toInt64), (rfs A 1)) := by
                            simp only [sp_told, rfi, rfj, tlo, thi, tv5, tv7, h_1, h_3, c_5, c_6, c_7, q_62, h_67, q_71, q_94, c_95, q_106, c_107, reduceIte, Bool.false_eq_true, not_true_eq_false, not_false_eq_true]
                          exact g_lret hx hb hr hlocks hI ⟨_, rfl, by rw [e9], by rw [e9]; exact hM⟩ dX11_told_167 (Nat.le_of_ble_eq_true rfl) (Nat.le_of_ble_eq_true rfl)
              · rw [hG] at hI
                refine W.eq (g2 := F0 mI 119 ls [.int 0]) rfl ?_
                refine lv_if_ne (tgt := 128) hx hb dX11_told_119 (by decide) (fun c_116 => absurd c_116 (by decide)) (fun _ => ?_)
                refine lv_aload_n hx hb dX11_told_122 rfl (lv_at hl 3 rfl) ?_
                refine lv_iconst (v := 5) hx hb dX11_told_123 (by decide) ?_
                refine g_callV (own := RX11) (index := 90) (n := 1) hx hb hml hown hts (c_X11_refuseLong l E b0 _ mo ma _ hM 5 (vp_in_iff.mpr (by decide))) hM.1 rfl rfl m_ml_X11_90 m_im_X11_refuseLong m_se_X11_X11_refuseLong_X11_refuseLong m_in_X11 m_co_X11_refuseLong (by decide +kernel) ⟨Nat.le_of_ble_eq_true rfl, Nat.le_of_ble_eq_true rfl⟩ ⟨Nat.le_of_ble_eq_true rfl, Nat.le_of_ble_eq_true rfl⟩ rfl hl.1 rfl (Nat.le_of_ble_eq_true rfl) dX11_told_124 hK hI (fun r G1 H1 L1 hp hI => ?_)
                obtain ⟨v, rfl, ev, hM⟩ := hp
                subst ev
                refine W.eq (g2 := F0 mI 127 ls [.long (-9223372036854775708 + ((-10 - 5) : Int32).toInt64)]) rfl ?_
                have e9 : sp_told A s w = ((-9223372036854775708 + ((-10 - 5) : Int32).toInt64), (rfs A 5)) := by
                  simp only [sp_told, rfi, rfj, tlo, thi, tv5, tv7, h_1, h_3, c_5, c_6, c_7, q_62, h_67, reduceIte, Bool.false_eq_true, not_true_eq_false, not_false_eq_true]
                exact g_lret hx hb hr hlocks hI ⟨_, rfl, by rw [e9], by rw [e9]; exact hM⟩ dX11_told_127 (Nat.le_of_ble_eq_true rfl) (Nat.le_of_ble_eq_true rfl)
            · have q_117 := eqb_t c_61
              refine lv_iconst (v := 3) hx hb dX11_told_57 (by decide) ?_
              refine lv_goto (tgt := 67) hx hb dX11_told_58 (by decide) ?_
              refine lv_istore (lv' := [(4, .int 3), (3, .int (A 0 (ix s))), (0, .ref mo), (1, .int s), (2, .int w)]) hx hb dX11_told_67 hl (by decide) rfl (fun ls hl => ?_)
              refine lv_iload_n hx hb dX11_told_69 rfl (lv_at hl 4 rfl) ?_
              refine lv_iconst (v := 2) hx hb dX11_told_70 (by decide) ?_
              refine lv_icmp_ge (tgt := 78) hx hb dX11_told_71 (by decide) (fun _ => ?_) (fun c_118 => by have c_118 := Int32.not_le.mp c_118; first | exact absurd c_5 c_118 | exact absurd c_118 c_5)
              refine lv_iload_n hx hb dX11_told_78 rfl (lv_at hl 4 rfl) ?_
              refine lv_iconst (v := 4) hx hb dX11_told_79 (by decide) ?_
              refine lv_icmp_ge (tgt := 87) hx hb dX11_told_80 (by decide) (fun _ => ?_) (fun c_119 => by have c_119 := Int32.not_le.mp c_119; first | exact absurd c_6 c_119 | exact absurd c_119 c_6)
              refine lv_iload_n hx hb dX11_told_87 rfl (lv_at hl 4 rfl) ?_
              refine lv_bipush (v := 6) hx hb dX11_told_88 (by decide) ?_
              refine lv_icmp_ge (tgt := 106) hx hb dX11_told_90 (by decide) (fun c_120 => by have c_120 := Int32.not_lt.mpr c_120; first | exact absurd c_7 c_120 | exact absurd c_120 c_7) (fun _ => ?_)
              refine lv_iload_n hx hb dX11_told_93 rfl (lv_at hl 4 rfl) ?_
              refine lv_iconst (v := 4) hx hb dX11_told_94 (by decide) ?_
              refine lv_icmp_ne (tgt := 102) hx hb dX11_told_95 (by decide) (fun c_121 => by first | exact absurd c_61 c_121 | exact absurd c_121 c_61 | (simp_all; done)) (fun _ => ?_)
              refine lv_iconst (v := 4) hx hb dX11_told_98 (by decide) ?_
              refine lv_goto (tgt := 108) hx hb dX11_told_99 (by decide) ?_
              refine lv_istore (lv' := [(5, .int 4), (4, .int 3), (3, .int (A 0 (ix s))), (0, .ref mo), (1, .int s), (2, .int w)]) hx hb dX11_told_108 hl (by decide) rfl (fun ls hl => ?_)
              refine lv_aload_n hx hb dX11_told_110 rfl (lv_at hl 3 rfl) ?_
              refine lv_iload_n hx hb dX11_told_111 rfl (lv_at hl 2 rfl) ?_
              refine lv_iload hx hb dX11_told_112 (lv_at hl 1 rfl) ?_
              refine lv_iload hx hb dX11_told_114 (lv_at hl 0 rfl) ?_
              refine g_callV (own := RX11) (index := 76) (n := 3) hx hb hml hown hts (c_X11_fits l E b0 _ mo ma _ hM (A 0 (ix s)) 3 4 (hw.sh (sh_in h_1))) hM.1 rfl rfl m_ml_X11_76 m_im_X11_fits m_se_X11_X11_fits_X11_fits m_in_X11 m_co_X11_fits (by decide +kernel) ⟨Nat.le_of_ble_eq_true rfl, Nat.le_of_ble_eq_true rfl⟩ ⟨Nat.le_of_ble_eq_true rfl, Nat.le_of_ble_eq_true rfl⟩ rfl hl.1 rfl (Nat.le_of_ble_eq_true rfl) dX11_told_116 hK hI (fun r G1 H1 L1 hp hI => ?_)
              obtain ⟨v, rfl, hG, ⟨h_122, rfl⟩ | ⟨h_122, rfl⟩⟩ := hp
              · rw [hG] at hI
                refine W.eq (g2 := F0 mI 119 ls [.int 1]) rfl ?_
                refine lv_if_ne (tgt := 128) hx hb dX11_told_119 (by decide) (fun _ => ?_) (fun c_123 => absurd c_123 (by decide))
                refine lv_iload_n hx hb dX11_told_128 rfl (lv_at hl 2 rfl) ?_
                refine lv_if_eq (tgt := 162) hx hb dX11_told_129 (by decide) (fun c_124 => ?_) (fun c_124 => ?_)
                · have q_125 := eqb_t c_124
                  refine lv_aload_n hx hb dX11_told_162 rfl (lv_at hl 3 rfl) ?_
                  refine lv_iconst (v := 1) hx hb dX11_told_163 (by decide) ?_
                  refine g_callV (own := RX11) (index := 90) (n := 1) hx hb hml hown hts (c_X11_refuseLong l E b0 _ mo ma _ hM 1 (vp_in_iff.mpr (by decide))) hM.1 rfl rfl m_ml_X11_90 m_im_X11_refuseLong m_se_X11_X11_refuseLong_X11_refuseLong m_in_X11 m_co_X11_refuseLong (by decide +kernel) ⟨Nat.le_of_ble_eq_true rfl, Nat.le_of_ble_eq_true rfl⟩ ⟨Nat.le_of_ble_eq_true rfl, Nat.le_of_ble_eq_true rfl⟩ rfl hl.1 rfl (Nat.le_of_ble_eq_true rfl) dX11_told_164 hK hI (fun r G1 H1 L1 hp hI => ?_)
                  obtain ⟨v, rfl, ev, hM⟩ := hp
                  subst ev
                  refine W.eq (g2 := F0 mI 167 ls [.long (-9223372036854775708 + ((-10 - 1) : Int32).toInt64)]) rfl ?_
                  have e9 : sp_told A s w = ((-9223372036854775708 + ((-10 - 1) : Int32).toInt64), (rfs A 1)) := by
                    simp only [sp_told, rfi, rfj, tlo, thi, tv5, tv7, h_1, h_3, c_5, c_6, c_7, q_117, h_122, q_125, reduceIte, Bool.false_eq_true, not_true_eq_false, not_false_eq_true]
                  exact g_lret hx hb hr hlocks hI ⟨_, rfl, by rw [e9], by rw [e9]; exact hM⟩ dX11_told_167 (Nat.le_of_ble_eq_true rfl) (Nat.le_of_ble_eq_true rfl)
                · have q_126 := eqb_f c_124
                  refine lv_iload_n hx hb dX11_told_132 rfl (lv_at hl 5 rfl) ?_
                  refine lv_bipush (v := 6) hx hb dX11_told_133 (by decide) ?_
                  refine lv_icmp_ne (tgt := 147) hx hb dX11_told_135 (by decide) (fun c_127 => ?_) (fun c_127 => ?_)
                  · have q_128 := eqb_f c_127
                    refine lv_iload_n hx hb dX11_told_147 rfl (lv_at hl 5 rfl) ?_
                    refine lv_bipush (v := 7) hx hb dX11_told_148 (by decide) ?_
                    refine lv_icmp_ne (tgt := 168) hx hb dX11_told_150 (by decide) (fun c_129 => ?_) (fun c_129 => ?_)
                    · have q_130 := eqb_f c_129
                      refine lv_iload_n hx hb dX11_told_168 rfl (lv_at hl 5 rfl) ?_
                      refine lv_iconst (v := 5) hx hb dX11_told_169 (by decide) ?_
                      refine lv_icmp_le (tgt := 197) hx hb dX11_told_170 (by decide) (fun c_131 => ?_) (fun c_131 => ?_)
                      · have c_131 := Int32.not_lt.mpr c_131
                        refine lv_iload_n hx hb dX11_told_197 rfl (lv_at hl 5 rfl) ?_
                        refine lv_iconst (v := 1) hx hb dX11_told_198 (by decide) ?_
                        refine lv_icmp_eq (tgt := 207) hx hb dX11_told_199 (by decide) (fun c_132 => ?_) (fun c_132 => ?_)
                        · have q_133 := eqb_t c_132
                          refine lv_aload_n hx hb dX11_told_207 rfl (lv_at hl 3 rfl) ?_
                          refine x_get (index := 19) hx hb hts hown hK hI hM 4 (by decide) m_fl_X11_19 rfl dX11_told_208 rfl ?_
                          refine lv_iload_n hx hb dX11_told_211 rfl (lv_at hl 2 rfl) ?_
                          refine x_ld hx hb hK hI hM 4 (by decide) (hw.sh (sh_in h_1)) dX11_told_212 ?_
                          refine lv_i2l hx hb dX11_told_213 rfl ?_
                          refine lv_goto (tgt := 224) hx hb dX11_told_214 (by decide) ?_
                          have e9 : sp_told A s w = ((((A 4 (ix (A 0 (ix s)))) : Int32).toInt64), A) := by
                            simp only [sp_told, rfi, rfj, tlo, thi, tv5, tv7, h_1, h_3, c_5, c_6, c_7, q_117, h_122, q_126, q_128, q_130, c_131, q_133, reduceIte, Bool.false_eq_true, not_true_eq_false, not_false_eq_true]
                          exact g_lret hx hb hr hlocks hI ⟨_, rfl, by rw [e9], by rw [e9]; exact hM⟩ dX11_told_224 (Nat.le_of_ble_eq_true rfl) (Nat.le_of_ble_eq_true rfl)
                        · have q_134 := eqb_f c_132
                          refine lv_iload_n hx hb dX11_told_202 rfl (lv_at hl 5 rfl) ?_
                          refine lv_iconst (v := 3) hx hb dX11_told_203 (by decide) ?_
                          refine lv_icmp_ne (tgt := 217) hx hb dX11_told_204 (by decide) (fun c_135 => ?_) (fun c_135 => ?_)
                          · have q_136 := eqb_f c_135
                            refine lv_aload_n hx hb dX11_told_217 rfl (lv_at hl 3 rfl) ?_
                            refine x_get (index := 16) hx hb hts hown hK hI hM 3 (by decide) m_fl_X11_16 rfl dX11_told_218 rfl ?_
                            refine lv_iload_n hx hb dX11_told_221 rfl (lv_at hl 2 rfl) ?_
                            refine x_ld hx hb hK hI hM 3 (by decide) (hw.sh (sh_in h_1)) dX11_told_222 ?_
                            refine lv_i2l hx hb dX11_told_223 rfl ?_
                            have e9 : sp_told A s w = ((((A 3 (ix (A 0 (ix s)))) : Int32).toInt64), A) := by
                              simp only [sp_told, rfi, rfj, tlo, thi, tv5, tv7, h_1, h_3, c_5, c_6, c_7, q_117, h_122, q_126, q_128, q_130, c_131, q_134, q_136, reduceIte, Bool.false_eq_true, not_true_eq_false, not_false_eq_true]
                            exact g_lret hx hb hr hlocks hI ⟨_, rfl, by rw [e9], by rw [e9]; exact hM⟩ dX11_told_224 (Nat.le_of_ble_eq_true rfl) (Nat.le_of_ble_eq_true rfl)
                          · have q_137 := eqb_t c_135
                            refine lv_aload_n hx hb dX11_told_207 rfl (lv_at hl 3 rfl) ?_
                            refine x_get (index := 19) hx hb hts hown hK hI hM 4 (by decide) m_fl_X11_19 rfl dX11_told_208 rfl ?_
                            refine lv_iload_n hx hb dX11_told_211 rfl (lv_at hl 2 rfl) ?_
                            refine x_ld hx hb hK hI hM 4 (by decide) (hw.sh (sh_in h_1)) dX11_told_212 ?_
                            refine lv_i2l hx hb dX11_told_213 rfl ?_
                            refine lv_goto (tgt := 224) hx hb dX11_told_214 (by decide) ?_
                            have e9 : sp_told A s w = ((((A 4 (ix (A 0 (ix s)))) : Int32).toInt64), A) := by
                              simp only [sp_told, rfi, rfj, tlo, thi, tv5, tv7, h_1, h_3, c_5, c_6, c_7, q_117, h_122, q_126, q_128, q_130, c_131, q_134, q_137, reduceIte, Bool.false_eq_true, not_true_eq_false, not_false_eq_true]
                            exact g_lret hx hb hr hlocks hI ⟨_, rfl, by rw [e9], by rw [e9]; exact hM⟩ dX11_told_224 (Nat.le_of_ble_eq_true rfl) (Nat.le_of_ble_eq_true rfl)
                      · have c_131 := Int32.not_le.mp c_131
                        refine lv_iload_n hx hb dX11_told_173 rfl (lv_at hl 5 rfl) ?_
                        refine lv_bipush (v := 6) hx hb dX11_told_174 (by decide) ?_
                        refine lv_icmp_ne (tgt := 189) hx hb dX11_told_176 (by decide) (fun _ => ?_) (fun c_138 => by first | exact absurd c_127 c_138 | exact absurd c_138 c_127 | (simp_all; done))
                        refine lv_aload_n hx hb dX11_told_189 rfl (lv_at hl 3 rfl) ?_
                        refine x_get (index := 28) hx hb hts hown hK hI hM 7 (by decide) m_fl_X11_28 rfl dX11_told_190 rfl ?_
                        refine lv_iload_n hx hb dX11_told_193 rfl (lv_at hl 2 rfl) ?_
                        refine x_ld hx hb hK hI hM 7 (by decide) (hw.sh (sh_in h_1)) dX11_told_194 ?_
                        refine lv_i2l hx hb dX11_told_195 rfl ?_
                        have e9 : sp_told A s w = ((((A 7 (ix (A 0 (ix s)))) : Int32).toInt64), A) := by
                          simp only [sp_told, rfi, rfj, tlo, thi, tv5, tv7, h_1, h_3, c_5, c_6, c_7, q_117, h_122, q_126, q_128, q_130, c_131, reduceIte, Bool.false_eq_true, not_true_eq_false, not_false_eq_true]
                        exact g_lret hx hb hr hlocks hI ⟨_, rfl, by rw [e9], by rw [e9]; exact hM⟩ dX11_told_196 (Nat.le_of_ble_eq_true rfl) (Nat.le_of_ble_eq_true rfl)
                    · have q_139 := eqb_t c_129
                      refine lv_aload_n hx hb dX11_told_153 rfl (lv_at hl 3 rfl) ?_
                      refine x_get (index := 28) hx hb hts hown hK hI hM 7 (by decide) m_fl_X11_28 rfl dX11_told_154 rfl ?_
                      refine lv_iload_n hx hb dX11_told_157 rfl (lv_at hl 2 rfl) ?_
                      refine x_ld hx hb hK hI hM 7 (by decide) (hw.sh (sh_in h_1)) dX11_told_158 ?_
                      refine lv_if_ge (tgt := 168) hx hb dX11_told_159 (by decide) (fun c_140 => ?_) (fun c_140 => ?_)
                      · have c_140 := Int32.not_lt.mpr c_140
                        refine lv_iload_n hx hb dX11_told_168 rfl (lv_at hl 5 rfl) ?_
                        refine lv_iconst (v := 5) hx hb dX11_told_169 (by decide) ?_
                        refine lv_icmp_le (tgt := 197) hx hb dX11_told_170 (by decide) (fun c_141 => ?_) (fun c_141 => ?_)
                        · have c_141 := Int32.not_lt.mpr c_141
                          refine lv_iload_n hx hb dX11_told_197 rfl (lv_at hl 5 rfl) ?_
                          refine lv_iconst (v := 1) hx hb dX11_told_198 (by decide) ?_
                          refine lv_icmp_eq (tgt := 207) hx hb dX11_told_199 (by decide) (fun c_142 => ?_) (fun c_142 => ?_)
                          · have q_143 := eqb_t c_142
                            refine lv_aload_n hx hb dX11_told_207 rfl (lv_at hl 3 rfl) ?_
                            refine x_get (index := 19) hx hb hts hown hK hI hM 4 (by decide) m_fl_X11_19 rfl dX11_told_208 rfl ?_
                            refine lv_iload_n hx hb dX11_told_211 rfl (lv_at hl 2 rfl) ?_
                            refine x_ld hx hb hK hI hM 4 (by decide) (hw.sh (sh_in h_1)) dX11_told_212 ?_
                            refine lv_i2l hx hb dX11_told_213 rfl ?_
                            refine lv_goto (tgt := 224) hx hb dX11_told_214 (by decide) ?_
                            have e9 : sp_told A s w = ((((A 4 (ix (A 0 (ix s)))) : Int32).toInt64), A) := by
                              simp only [sp_told, rfi, rfj, tlo, thi, tv5, tv7, h_1, h_3, c_5, c_6, c_7, q_117, h_122, q_126, q_128, q_139, c_140, c_141, q_143, reduceIte, Bool.false_eq_true, not_true_eq_false, not_false_eq_true]
                            exact g_lret hx hb hr hlocks hI ⟨_, rfl, by rw [e9], by rw [e9]; exact hM⟩ dX11_told_224 (Nat.le_of_ble_eq_true rfl) (Nat.le_of_ble_eq_true rfl)
                          · have q_144 := eqb_f c_142
                            refine lv_iload_n hx hb dX11_told_202 rfl (lv_at hl 5 rfl) ?_
                            refine lv_iconst (v := 3) hx hb dX11_told_203 (by decide) ?_
                            refine lv_icmp_ne (tgt := 217) hx hb dX11_told_204 (by decide) (fun c_145 => ?_) (fun c_145 => ?_)
                            · have q_146 := eqb_f c_145
                              refine lv_aload_n hx hb dX11_told_217 rfl (lv_at hl 3 rfl) ?_
                              refine x_get (index := 16) hx hb hts hown hK hI hM 3 (by decide) m_fl_X11_16 rfl dX11_told_218 rfl ?_
                              refine lv_iload_n hx hb dX11_told_221 rfl (lv_at hl 2 rfl) ?_
                              refine x_ld hx hb hK hI hM 3 (by decide) (hw.sh (sh_in h_1)) dX11_told_222 ?_
                              refine lv_i2l hx hb dX11_told_223 rfl ?_
                              have e9 : sp_told A s w = ((((A 3 (ix (A 0 (ix s)))) : Int32).toInt64), A) := by
                                simp only [sp_told, rfi, rfj, tlo, thi, tv5, tv7, h_1, h_3, c_5, c_6, c_7, q_117, h_122, q_126, q_128, q_139, c_140, c_141, q_144, q_146, reduceIte, Bool.false_eq_true, not_true_eq_false, not_false_eq_true]
                              exact g_lret hx hb hr hlocks hI ⟨_, rfl, by rw [e9], by rw [e9]; exact hM⟩ dX11_told_224 (Nat.le_of_ble_eq_true rfl) (Nat.le_of_ble_eq_true rfl)
                            · have q_147 := eqb_t c_145
                              refine lv_aload_n hx hb dX11_told_207 rfl (lv_at hl 3 rfl) ?_
                              refine x_get (index := 19) hx hb hts hown hK hI hM 4 (by decide) m_fl_X11_19 rfl dX11_told_208 rfl ?_
                              refine lv_iload_n hx hb dX11_told_211 rfl (lv_at hl 2 rfl) ?_
                              refine x_ld hx hb hK hI hM 4 (by decide) (hw.sh (sh_in h_1)) dX11_told_212 ?_
                              refine lv_i2l hx hb dX11_told_213 rfl ?_
                              refine lv_goto (tgt := 224) hx hb dX11_told_214 (by decide) ?_
                              have e9 : sp_told A s w = ((((A 4 (ix (A 0 (ix s)))) : Int32).toInt64), A) := by
                                simp only [sp_told, rfi, rfj, tlo, thi, tv5, tv7, h_1, h_3, c_5, c_6, c_7, q_117, h_122, q_126, q_128, q_139, c_140, c_141, q_144, q_147, reduceIte, Bool.false_eq_true, not_true_eq_false, not_false_eq_true]
                              exact g_lret hx hb hr hlocks hI ⟨_, rfl, by rw [e9], by rw [e9]; exact hM⟩ dX11_told_224 (Nat.le_of_ble_eq_true rfl) (Nat.le_of_ble_eq_true rfl)
                        · have c_141 := Int32.not_le.mp c_141
                          refine lv_iload_n hx hb dX11_told_173 rfl (lv_at hl 5 rfl) ?_
                          refine lv_bipush (v := 6) hx hb dX11_told_174 (by decide) ?_
                          refine lv_icmp_ne (tgt := 189) hx hb dX11_told_176 (by decide) (fun _ => ?_) (fun c_148 => by first | exact absurd c_127 c_148 | exact absurd c_148 c_127 | (simp_all; done))
                          refine lv_aload_n hx hb dX11_told_189 rfl (lv_at hl 3 rfl) ?_
                          refine x_get (index := 28) hx hb hts hown hK hI hM 7 (by decide) m_fl_X11_28 rfl dX11_told_190 rfl ?_
                          refine lv_iload_n hx hb dX11_told_193 rfl (lv_at hl 2 rfl) ?_
                          refine x_ld hx hb hK hI hM 7 (by decide) (hw.sh (sh_in h_1)) dX11_told_194 ?_
                          refine lv_i2l hx hb dX11_told_195 rfl ?_
                          have e9 : sp_told A s w = ((((A 7 (ix (A 0 (ix s)))) : Int32).toInt64), A) := by
                            simp only [sp_told, rfi, rfj, tlo, thi, tv5, tv7, h_1, h_3, c_5, c_6, c_7, q_117, h_122, q_126, q_128, q_139, c_140, c_141, reduceIte, Bool.false_eq_true, not_true_eq_false, not_false_eq_true]
                          exact g_lret hx hb hr hlocks hI ⟨_, rfl, by rw [e9], by rw [e9]; exact hM⟩ dX11_told_196 (Nat.le_of_ble_eq_true rfl) (Nat.le_of_ble_eq_true rfl)
                      · have c_140 := Int32.not_le.mp c_140
                        refine lv_aload_n hx hb dX11_told_162 rfl (lv_at hl 3 rfl) ?_
                        refine lv_iconst (v := 1) hx hb dX11_told_163 (by decide) ?_
                        refine g_callV (own := RX11) (index := 90) (n := 1) hx hb hml hown hts (c_X11_refuseLong l E b0 _ mo ma _ hM 1 (vp_in_iff.mpr (by decide))) hM.1 rfl rfl m_ml_X11_90 m_im_X11_refuseLong m_se_X11_X11_refuseLong_X11_refuseLong m_in_X11 m_co_X11_refuseLong (by decide +kernel) ⟨Nat.le_of_ble_eq_true rfl, Nat.le_of_ble_eq_true rfl⟩ ⟨Nat.le_of_ble_eq_true rfl, Nat.le_of_ble_eq_true rfl⟩ rfl hl.1 rfl (Nat.le_of_ble_eq_true rfl) dX11_told_164 hK hI (fun r G1 H1 L1 hp hI => ?_)
                        obtain ⟨v, rfl, ev, hM⟩ := hp
                        subst ev
                        refine W.eq (g2 := F0 mI 167 ls [.long (-9223372036854775708 + ((-10 - 1) : Int32).toInt64)]) rfl ?_
                        have e9 : sp_told A s w = ((-9223372036854775708 + ((-10 - 1) : Int32).toInt64), (rfs A 1)) := by
                          simp only [sp_told, rfi, rfj, tlo, thi, tv5, tv7, h_1, h_3, c_5, c_6, c_7, q_117, h_122, q_126, q_128, q_139, c_140, reduceIte, Bool.false_eq_true, not_true_eq_false, not_false_eq_true]
                        exact g_lret hx hb hr hlocks hI ⟨_, rfl, by rw [e9], by rw [e9]; exact hM⟩ dX11_told_167 (Nat.le_of_ble_eq_true rfl) (Nat.le_of_ble_eq_true rfl)
                  · have q_149 := eqb_t c_127
                    refine lv_aload_n hx hb dX11_told_138 rfl (lv_at hl 3 rfl) ?_
                    refine x_get (index := 22) hx hb hts hown hK hI hM 5 (by decide) m_fl_X11_22 rfl dX11_told_139 rfl ?_
                    refine lv_iload_n hx hb dX11_told_142 rfl (lv_at hl 2 rfl) ?_
                    refine x_ld hx hb hK hI hM 5 (by decide) (hw.sh (sh_in h_1)) dX11_told_143 ?_
                    refine lv_if_lt (tgt := 162) hx hb dX11_told_144 (by decide) (fun c_150 => ?_) (fun c_150 => ?_)
                    · refine lv_aload_n hx hb dX11_told_162 rfl (lv_at hl 3 rfl) ?_
                      refine lv_iconst (v := 1) hx hb dX11_told_163 (by decide) ?_
                      refine g_callV (own := RX11) (index := 90) (n := 1) hx hb hml hown hts (c_X11_refuseLong l E b0 _ mo ma _ hM 1 (vp_in_iff.mpr (by decide))) hM.1 rfl rfl m_ml_X11_90 m_im_X11_refuseLong m_se_X11_X11_refuseLong_X11_refuseLong m_in_X11 m_co_X11_refuseLong (by decide +kernel) ⟨Nat.le_of_ble_eq_true rfl, Nat.le_of_ble_eq_true rfl⟩ ⟨Nat.le_of_ble_eq_true rfl, Nat.le_of_ble_eq_true rfl⟩ rfl hl.1 rfl (Nat.le_of_ble_eq_true rfl) dX11_told_164 hK hI (fun r G1 H1 L1 hp hI => ?_)
                      obtain ⟨v, rfl, ev, hM⟩ := hp
                      subst ev
                      refine W.eq (g2 := F0 mI 167 ls [.long (-9223372036854775708 + ((-10 - 1) : Int32).toInt64)]) rfl ?_
                      have e9 : sp_told A s w = ((-9223372036854775708 + ((-10 - 1) : Int32).toInt64), (rfs A 1)) := by
                        simp only [sp_told, rfi, rfj, tlo, thi, tv5, tv7, h_1, h_3, c_5, c_6, c_7, q_117, h_122, q_126, q_149, c_150, reduceIte, Bool.false_eq_true, not_true_eq_false, not_false_eq_true]
                      exact g_lret hx hb hr hlocks hI ⟨_, rfl, by rw [e9], by rw [e9]; exact hM⟩ dX11_told_167 (Nat.le_of_ble_eq_true rfl) (Nat.le_of_ble_eq_true rfl)
                    · refine lv_iload_n hx hb dX11_told_147 rfl (lv_at hl 5 rfl) ?_
                      refine lv_bipush (v := 7) hx hb dX11_told_148 (by decide) ?_
                      refine lv_icmp_ne (tgt := 168) hx hb dX11_told_150 (by decide) (fun c_151 => ?_) (fun c_151 => ?_)
                      · have q_152 := eqb_f c_151
                        refine lv_iload_n hx hb dX11_told_168 rfl (lv_at hl 5 rfl) ?_
                        refine lv_iconst (v := 5) hx hb dX11_told_169 (by decide) ?_
                        refine lv_icmp_le (tgt := 197) hx hb dX11_told_170 (by decide) (fun c_153 => ?_) (fun c_153 => ?_)
                        · have c_153 := Int32.not_lt.mpr c_153
                          refine lv_iload_n hx hb dX11_told_197 rfl (lv_at hl 5 rfl) ?_
                          refine lv_iconst (v := 1) hx hb dX11_told_198 (by decide) ?_
                          refine lv_icmp_eq (tgt := 207) hx hb dX11_told_199 (by decide) (fun c_154 => ?_) (fun c_154 => ?_)
                          · have q_155 := eqb_t c_154
                            refine lv_aload_n hx hb dX11_told_207 rfl (lv_at hl 3 rfl) ?_
                            refine x_get (index := 19) hx hb hts hown hK hI hM 4 (by decide) m_fl_X11_19 rfl dX11_told_208 rfl ?_
                            refine lv_iload_n hx hb dX11_told_211 rfl (lv_at hl 2 rfl) ?_
                            refine x_ld hx hb hK hI hM 4 (by decide) (hw.sh (sh_in h_1)) dX11_told_212 ?_
                            refine lv_i2l hx hb dX11_told_213 rfl ?_
                            refine lv_goto (tgt := 224) hx hb dX11_told_214 (by decide) ?_
                            have e9 : sp_told A s w = ((((A 4 (ix (A 0 (ix s)))) : Int32).toInt64), A) := by
                              simp only [sp_told, rfi, rfj, tlo, thi, tv5, tv7, h_1, h_3, c_5, c_6, c_7, q_117, h_122, q_126, q_149, c_150, q_152, c_153, q_155, reduceIte, Bool.false_eq_true, not_true_eq_false, not_false_eq_true]
                            exact g_lret hx hb hr hlocks hI ⟨_, rfl, by rw [e9], by rw [e9]; exact hM⟩ dX11_told_224 (Nat.le_of_ble_eq_true rfl) (Nat.le_of_ble_eq_true rfl)
                          · have q_156 := eqb_f c_154
                            refine lv_iload_n hx hb dX11_told_202 rfl (lv_at hl 5 rfl) ?_
                            refine lv_iconst (v := 3) hx hb dX11_told_203 (by decide) ?_
                            refine lv_icmp_ne (tgt := 217) hx hb dX11_told_204 (by decide) (fun c_157 => ?_) (fun c_157 => ?_)
                            · have q_158 := eqb_f c_157
                              refine lv_aload_n hx hb dX11_told_217 rfl (lv_at hl 3 rfl) ?_
                              refine x_get (index := 16) hx hb hts hown hK hI hM 3 (by decide) m_fl_X11_16 rfl dX11_told_218 rfl ?_
                              refine lv_iload_n hx hb dX11_told_221 rfl (lv_at hl 2 rfl) ?_
                              refine x_ld hx hb hK hI hM 3 (by decide) (hw.sh (sh_in h_1)) dX11_told_222 ?_
                              refine lv_i2l hx hb dX11_told_223 rfl ?_
                              have e9 : sp_told A s w = ((((A 3 (ix (A 0 (ix s)))) : Int32).toInt64), A) := by
                                simp only [sp_told, rfi, rfj, tlo, thi, tv5, tv7, h_1, h_3, c_5, c_6, c_7, q_117, h_122, q_126, q_149, c_150, q_152, c_153, q_156, q_158, reduceIte, Bool.false_eq_true, not_true_eq_false, not_false_eq_true]
                              exact g_lret hx hb hr hlocks hI ⟨_, rfl, by rw [e9], by rw [e9]; exact hM⟩ dX11_told_224 (Nat.le_of_ble_eq_true rfl) (Nat.le_of_ble_eq_true rfl)
                            · have q_159 := eqb_t c_157
                              refine lv_aload_n hx hb dX11_told_207 rfl (lv_at hl 3 rfl) ?_
                              refine x_get (index := 19) hx hb hts hown hK hI hM 4 (by decide) m_fl_X11_19 rfl dX11_told_208 rfl ?_
                              refine lv_iload_n hx hb dX11_told_211 rfl (lv_at hl 2 rfl) ?_
                              refine x_ld hx hb hK hI hM 4 (by decide) (hw.sh (sh_in h_1)) dX11_told_212 ?_
                              refine lv_i2l hx hb dX11_told_213 rfl ?_
                              refine lv_goto (tgt := 224) hx hb dX11_told_214 (by decide) ?_
                              have e9 : sp_told A s w = ((((A 4 (ix (A 0 (ix s)))) : Int32).toInt64), A) := by
                                simp only [sp_told, rfi, rfj, tlo, thi, tv5, tv7, h_1, h_3, c_5, c_6, c_7, q_117, h_122, q_126, q_149, c_150, q_152, c_153, q_156, q_159, reduceIte, Bool.false_eq_true, not_true_eq_false, not_false_eq_true]
                              exact g_lret hx hb hr hlocks hI ⟨_, rfl, by rw [e9], by rw [e9]; exact hM⟩ dX11_told_224 (Nat.le_of_ble_eq_true rfl) (Nat.le_of_ble_eq_true rfl)
                        · have c_153 := Int32.not_le.mp c_153
                          refine lv_iload_n hx hb dX11_told_173 rfl (lv_at hl 5 rfl) ?_
                          refine lv_bipush (v := 6) hx hb dX11_told_174 (by decide) ?_
                          refine lv_icmp_ne (tgt := 189) hx hb dX11_told_176 (by decide) (fun c_160 => by first | exact absurd c_127 c_160 | exact absurd c_160 c_127 | (simp_all; done)) (fun _ => ?_)
                          refine lv_aload_n hx hb dX11_told_179 rfl (lv_at hl 3 rfl) ?_
                          refine x_get (index := 22) hx hb hts hown hK hI hM 5 (by decide) m_fl_X11_22 rfl dX11_told_180 rfl ?_
                          refine lv_iload_n hx hb dX11_told_183 rfl (lv_at hl 2 rfl) ?_
                          refine x_ld hx hb hK hI hM 5 (by decide) (hw.sh (sh_in h_1)) dX11_told_184 ?_
                          refine lv_i2l hx hb dX11_told_185 rfl ?_
                          refine lv_goto (tgt := 196) hx hb dX11_told_186 (by decide) ?_
                          have e9 : sp_told A s w = ((((A 5 (ix (A 0 (ix s)))) : Int32).toInt64), A) := by
                            simp only [sp_told, rfi, rfj, tlo, thi, tv5, tv7, h_1, h_3, c_5, c_6, c_7, q_117, h_122, q_126, q_149, c_150, q_152, c_153, reduceIte, Bool.false_eq_true, not_true_eq_false, not_false_eq_true]
                          exact g_lret hx hb hr hlocks hI ⟨_, rfl, by rw [e9], by rw [e9]; exact hM⟩ dX11_told_196 (Nat.le_of_ble_eq_true rfl) (Nat.le_of_ble_eq_true rfl)
                      · have q_161 := eqb_t c_151
                        refine lv_aload_n hx hb dX11_told_153 rfl (lv_at hl 3 rfl) ?_
                        refine x_get (index := 28) hx hb hts hown hK hI hM 7 (by decide) m_fl_X11_28 rfl dX11_told_154 rfl ?_
                        refine lv_iload_n hx hb dX11_told_157 rfl (lv_at hl 2 rfl) ?_
                        refine x_ld hx hb hK hI hM 7 (by decide) (hw.sh (sh_in h_1)) dX11_told_158 ?_
                        refine lv_if_ge (tgt := 168) hx hb dX11_told_159 (by decide) (fun c_162 => ?_) (fun c_162 => ?_)
                        · have c_162 := Int32.not_lt.mpr c_162
                          refine lv_iload_n hx hb dX11_told_168 rfl (lv_at hl 5 rfl) ?_
                          refine lv_iconst (v := 5) hx hb dX11_told_169 (by decide) ?_
                          refine lv_icmp_le (tgt := 197) hx hb dX11_told_170 (by decide) (fun c_163 => ?_) (fun c_163 => ?_)
                          · have c_163 := Int32.not_lt.mpr c_163
                            refine lv_iload_n hx hb dX11_told_197 rfl (lv_at hl 5 rfl) ?_
                            refine lv_iconst (v := 1) hx hb dX11_told_198 (by decide) ?_
                            refine lv_icmp_eq (tgt := 207) hx hb dX11_told_199 (by decide) (fun c_164 => ?_) (fun c_164 => ?_)
                            · have q_165 := eqb_t c_164
                              refine lv_aload_n hx hb dX11_told_207 rfl (lv_at hl 3 rfl) ?_
                              refine x_get (index := 19) hx hb hts hown hK hI hM 4 (by decide) m_fl_X11_19 rfl dX11_told_208 rfl ?_
                              refine lv_iload_n hx hb dX11_told_211 rfl (lv_at hl 2 rfl) ?_
                              refine x_ld hx hb hK hI hM 4 (by decide) (hw.sh (sh_in h_1)) dX11_told_212 ?_
                              refine lv_i2l hx hb dX11_told_213 rfl ?_
                              refine lv_goto (tgt := 224) hx hb dX11_told_214 (by decide) ?_
                              have e9 : sp_told A s w = ((((A 4 (ix (A 0 (ix s)))) : Int32).toInt64), A) := by
                                simp only [sp_told, rfi, rfj, tlo, thi, tv5, tv7, h_1, h_3, c_5, c_6, c_7, q_117, h_122, q_126, q_149, c_150, q_161, c_162, c_163, q_165, reduceIte, Bool.false_eq_true, not_true_eq_false, not_false_eq_true]
                              exact g_lret hx hb hr hlocks hI ⟨_, rfl, by rw [e9], by rw [e9]; exact hM⟩ dX11_told_224 (Nat.le_of_ble_eq_true rfl) (Nat.le_of_ble_eq_true rfl)
                            · have q_166 := eqb_f c_164
                              refine lv_iload_n hx hb dX11_told_202 rfl (lv_at hl 5 rfl) ?_
                              refine lv_iconst (v := 3) hx hb dX11_told_203 (by decide) ?_
                              refine lv_icmp_ne (tgt := 217) hx hb dX11_told_204 (by decide) (fun c_167 => ?_) (fun c_167 => ?_)
                              · have q_168 := eqb_f c_167
                                refine lv_aload_n hx hb dX11_told_217 rfl (lv_at hl 3 rfl) ?_
                                refine x_get (index := 16) hx hb hts hown hK hI hM 3 (by decide) m_fl_X11_16 rfl dX11_told_218 rfl ?_
                                refine lv_iload_n hx hb dX11_told_221 rfl (lv_at hl 2 rfl) ?_
                                refine x_ld hx hb hK hI hM 3 (by decide) (hw.sh (sh_in h_1)) dX11_told_222 ?_
                                refine lv_i2l hx hb dX11_told_223 rfl ?_
                                have e9 : sp_told A s w = ((((A 3 (ix (A 0 (ix s)))) : Int32).toInt64), A) := by
                                  simp only [sp_told, rfi, rfj, tlo, thi, tv5, tv7, h_1, h_3, c_5, c_6, c_7, q_117, h_122, q_126, q_149, c_150, q_161, c_162, c_163, q_166, q_168, reduceIte, Bool.false_eq_true, not_true_eq_false, not_false_eq_true]
                                exact g_lret hx hb hr hlocks hI ⟨_, rfl, by rw [e9], by rw [e9]; exact hM⟩ dX11_told_224 (Nat.le_of_ble_eq_true rfl) (Nat.le_of_ble_eq_true rfl)
                              · have q_169 := eqb_t c_167
                                refine lv_aload_n hx hb dX11_told_207 rfl (lv_at hl 3 rfl) ?_
                                refine x_get (index := 19) hx hb hts hown hK hI hM 4 (by decide) m_fl_X11_19 rfl dX11_told_208 rfl ?_
                                refine lv_iload_n hx hb dX11_told_211 rfl (lv_at hl 2 rfl) ?_
                                refine x_ld hx hb hK hI hM 4 (by decide) (hw.sh (sh_in h_1)) dX11_told_212 ?_
                                refine lv_i2l hx hb dX11_told_213 rfl ?_
                                refine lv_goto (tgt := 224) hx hb dX11_told_214 (by decide) ?_
                                have e9 : sp_told A s w = ((((A 4 (ix (A 0 (ix s)))) : Int32).toInt64), A) := by
                                  simp only [sp_told, rfi, rfj, tlo, thi, tv5, tv7, h_1, h_3, c_5, c_6, c_7, q_117, h_122, q_126, q_149, c_150, q_161, c_162, c_163, q_166, q_169, reduceIte, Bool.false_eq_true, not_true_eq_false, not_false_eq_true]
                                exact g_lret hx hb hr hlocks hI ⟨_, rfl, by rw [e9], by rw [e9]; exact hM⟩ dX11_told_224 (Nat.le_of_ble_eq_true rfl) (Nat.le_of_ble_eq_true rfl)
                          · have c_163 := Int32.not_le.mp c_163
                            refine lv_iload_n hx hb dX11_told_173 rfl (lv_at hl 5 rfl) ?_
                            refine lv_bipush (v := 6) hx hb dX11_told_174 (by decide) ?_
                            refine lv_icmp_ne (tgt := 189) hx hb dX11_told_176 (by decide) (fun c_170 => by first | exact absurd c_127 c_170 | exact absurd c_170 c_127 | (simp_all; done)) (fun _ => ?_)
                            refine lv_aload_n hx hb dX11_told_179 rfl (lv_at hl 3 rfl) ?_
                            refine x_get (index := 22) hx hb hts hown hK hI hM 5 (by decide) m_fl_X11_22 rfl dX11_told_180 rfl ?_
                            refine lv_iload_n hx hb dX11_told_183 rfl (lv_at hl 2 rfl) ?_
                            refine x_ld hx hb hK hI hM 5 (by decide) (hw.sh (sh_in h_1)) dX11_told_184 ?_
                            refine lv_i2l hx hb dX11_told_185 rfl ?_
                            refine lv_goto (tgt := 196) hx hb dX11_told_186 (by decide) ?_
                            have e9 : sp_told A s w = ((((A 5 (ix (A 0 (ix s)))) : Int32).toInt64), A) := by
                              simp only [sp_told, rfi, rfj, tlo, thi, tv5, tv7, h_1, h_3, c_5, c_6, c_7, q_117, h_122, q_126, q_149, c_150, q_161, c_162, c_163, reduceIte, Bool.false_eq_true, not_true_eq_false, not_false_eq_true]
                            exact g_lret hx hb hr hlocks hI ⟨_, rfl, by rw [e9], by rw [e9]; exact hM⟩ dX11_told_196 (Nat.le_of_ble_eq_true rfl) (Nat.le_of_ble_eq_true rfl)
                        · have c_162 := Int32.not_le.mp c_162
                          refine lv_aload_n hx hb dX11_told_162 rfl (lv_at hl 3 rfl) ?_
                          refine lv_iconst (v := 1) hx hb dX11_told_163 (by decide) ?_
                          refine g_callV (own := RX11) (index := 90) (n := 1) hx hb hml hown hts (c_X11_refuseLong l E b0 _ mo ma _ hM 1 (vp_in_iff.mpr (by decide))) hM.1 rfl rfl m_ml_X11_90 m_im_X11_refuseLong m_se_X11_X11_refuseLong_X11_refuseLong m_in_X11 m_co_X11_refuseLong (by decide +kernel) ⟨Nat.le_of_ble_eq_true rfl, Nat.le_of_ble_eq_true rfl⟩ ⟨Nat.le_of_ble_eq_true rfl, Nat.le_of_ble_eq_true rfl⟩ rfl hl.1 rfl (Nat.le_of_ble_eq_true rfl) dX11_told_164 hK hI (fun r G1 H1 L1 hp hI => ?_)
                          obtain ⟨v, rfl, ev, hM⟩ := hp
                          subst ev
                          refine W.eq (g2 := F0 mI 167 ls [.long (-9223372036854775708 + ((-10 - 1) : Int32).toInt64)]) rfl ?_
                          have e9 : sp_told A s w = ((-9223372036854775708 + ((-10 - 1) : Int32).toInt64), (rfs A 1)) := by
                            simp only [sp_told, rfi, rfj, tlo, thi, tv5, tv7, h_1, h_3, c_5, c_6, c_7, q_117, h_122, q_126, q_149, c_150, q_161, c_162, reduceIte, Bool.false_eq_true, not_true_eq_false, not_false_eq_true]
                          exact g_lret hx hb hr hlocks hI ⟨_, rfl, by rw [e9], by rw [e9]; exact hM⟩ dX11_told_167 (Nat.le_of_ble_eq_true rfl) (Nat.le_of_ble_eq_true rfl)
              · rw [hG] at hI
                refine W.eq (g2 := F0 mI 119 ls [.int 0]) rfl ?_
                refine lv_if_ne (tgt := 128) hx hb dX11_told_119 (by decide) (fun c_171 => absurd c_171 (by decide)) (fun _ => ?_)
                refine lv_aload_n hx hb dX11_told_122 rfl (lv_at hl 3 rfl) ?_
                refine lv_iconst (v := 5) hx hb dX11_told_123 (by decide) ?_
                refine g_callV (own := RX11) (index := 90) (n := 1) hx hb hml hown hts (c_X11_refuseLong l E b0 _ mo ma _ hM 5 (vp_in_iff.mpr (by decide))) hM.1 rfl rfl m_ml_X11_90 m_im_X11_refuseLong m_se_X11_X11_refuseLong_X11_refuseLong m_in_X11 m_co_X11_refuseLong (by decide +kernel) ⟨Nat.le_of_ble_eq_true rfl, Nat.le_of_ble_eq_true rfl⟩ ⟨Nat.le_of_ble_eq_true rfl, Nat.le_of_ble_eq_true rfl⟩ rfl hl.1 rfl (Nat.le_of_ble_eq_true rfl) dX11_told_124 hK hI (fun r G1 H1 L1 hp hI => ?_)
                obtain ⟨v, rfl, ev, hM⟩ := hp
                subst ev
                refine W.eq (g2 := F0 mI 127 ls [.long (-9223372036854775708 + ((-10 - 5) : Int32).toInt64)]) rfl ?_
                have e9 : sp_told A s w = ((-9223372036854775708 + ((-10 - 5) : Int32).toInt64), (rfs A 5)) := by
                  simp only [sp_told, rfi, rfj, tlo, thi, tv5, tv7, h_1, h_3, c_5, c_6, c_7, q_117, h_122, reduceIte, Bool.false_eq_true, not_true_eq_false, not_false_eq_true]
                exact g_lret hx hb hr hlocks hI ⟨_, rfl, by rw [e9], by rw [e9]; exact hM⟩ dX11_told_127 (Nat.le_of_ble_eq_true rfl) (Nat.le_of_ble_eq_true rfl)
        · have c_6 := Int32.not_le.mp c_6
          refine lv_iconst (v := 2) hx hb dX11_told_42 (by decide) ?_
          refine lv_goto (tgt := 67) hx hb dX11_told_43 (by decide) ?_
          refine lv_istore (lv' := [(4, .int 2), (3, .int (A 0 (ix s))), (0, .ref mo), (1, .int s), (2, .int w)]) hx hb dX11_told_67 hl (by decide) rfl (fun ls hl => ?_)
          refine lv_iload_n hx hb dX11_told_69 rfl (lv_at hl 4 rfl) ?_
          refine lv_iconst (v := 2) hx hb dX11_told_70 (by decide) ?_
          refine lv_icmp_ge (tgt := 78) hx hb dX11_told_71 (by decide) (fun _ => ?_) (fun c_172 => by have c_172 := Int32.not_le.mp c_172; first | exact absurd c_5 c_172 | exact absurd c_172 c_5)
          refine lv_iload_n hx hb dX11_told_78 rfl (lv_at hl 4 rfl) ?_
          refine lv_iconst (v := 4) hx hb dX11_told_79 (by decide) ?_
          refine lv_icmp_ge (tgt := 87) hx hb dX11_told_80 (by decide) (fun c_173 => by have c_173 := Int32.not_lt.mpr c_173; first | exact absurd c_6 c_173 | exact absurd c_173 c_6) (fun _ => ?_)
          refine lv_iconst (v := 2) hx hb dX11_told_83 (by decide) ?_
          refine lv_goto (tgt := 108) hx hb dX11_told_84 (by decide) ?_
          refine lv_istore (lv' := [(5, .int 2), (4, .int 2), (3, .int (A 0 (ix s))), (0, .ref mo), (1, .int s), (2, .int w)]) hx hb dX11_told_108 hl (by decide) rfl (fun ls hl => ?_)
          refine lv_aload_n hx hb dX11_told_110 rfl (lv_at hl 3 rfl) ?_
          refine lv_iload_n hx hb dX11_told_111 rfl (lv_at hl 2 rfl) ?_
          refine lv_iload hx hb dX11_told_112 (lv_at hl 1 rfl) ?_
          refine lv_iload hx hb dX11_told_114 (lv_at hl 0 rfl) ?_
          refine g_callV (own := RX11) (index := 76) (n := 3) hx hb hml hown hts (c_X11_fits l E b0 _ mo ma _ hM (A 0 (ix s)) 2 2 (hw.sh (sh_in h_1))) hM.1 rfl rfl m_ml_X11_76 m_im_X11_fits m_se_X11_X11_fits_X11_fits m_in_X11 m_co_X11_fits (by decide +kernel) ⟨Nat.le_of_ble_eq_true rfl, Nat.le_of_ble_eq_true rfl⟩ ⟨Nat.le_of_ble_eq_true rfl, Nat.le_of_ble_eq_true rfl⟩ rfl hl.1 rfl (Nat.le_of_ble_eq_true rfl) dX11_told_116 hK hI (fun r G1 H1 L1 hp hI => ?_)
          obtain ⟨v, rfl, hG, ⟨h_174, rfl⟩ | ⟨h_174, rfl⟩⟩ := hp
          · rw [hG] at hI
            refine W.eq (g2 := F0 mI 119 ls [.int 1]) rfl ?_
            refine lv_if_ne (tgt := 128) hx hb dX11_told_119 (by decide) (fun _ => ?_) (fun c_175 => absurd c_175 (by decide))
            refine lv_iload_n hx hb dX11_told_128 rfl (lv_at hl 2 rfl) ?_
            refine lv_if_eq (tgt := 162) hx hb dX11_told_129 (by decide) (fun c_176 => ?_) (fun c_176 => ?_)
            · have q_177 := eqb_t c_176
              refine lv_aload_n hx hb dX11_told_162 rfl (lv_at hl 3 rfl) ?_
              refine lv_iconst (v := 1) hx hb dX11_told_163 (by decide) ?_
              refine g_callV (own := RX11) (index := 90) (n := 1) hx hb hml hown hts (c_X11_refuseLong l E b0 _ mo ma _ hM 1 (vp_in_iff.mpr (by decide))) hM.1 rfl rfl m_ml_X11_90 m_im_X11_refuseLong m_se_X11_X11_refuseLong_X11_refuseLong m_in_X11 m_co_X11_refuseLong (by decide +kernel) ⟨Nat.le_of_ble_eq_true rfl, Nat.le_of_ble_eq_true rfl⟩ ⟨Nat.le_of_ble_eq_true rfl, Nat.le_of_ble_eq_true rfl⟩ rfl hl.1 rfl (Nat.le_of_ble_eq_true rfl) dX11_told_164 hK hI (fun r G1 H1 L1 hp hI => ?_)
              obtain ⟨v, rfl, ev, hM⟩ := hp
              subst ev
              refine W.eq (g2 := F0 mI 167 ls [.long (-9223372036854775708 + ((-10 - 1) : Int32).toInt64)]) rfl ?_
              have e9 : sp_told A s w = ((-9223372036854775708 + ((-10 - 1) : Int32).toInt64), (rfs A 1)) := by
                simp only [sp_told, rfi, rfj, tlo, thi, tv5, tv7, h_1, h_3, c_5, c_6, h_174, q_177, reduceIte, Bool.false_eq_true, not_true_eq_false, not_false_eq_true]
              exact g_lret hx hb hr hlocks hI ⟨_, rfl, by rw [e9], by rw [e9]; exact hM⟩ dX11_told_167 (Nat.le_of_ble_eq_true rfl) (Nat.le_of_ble_eq_true rfl)
            · have q_178 := eqb_f c_176
              refine lv_iload_n hx hb dX11_told_132 rfl (lv_at hl 5 rfl) ?_
              refine lv_bipush (v := 6) hx hb dX11_told_133 (by decide) ?_
              refine lv_icmp_ne (tgt := 147) hx hb dX11_told_135 (by decide) (fun c_179 => ?_) (fun c_179 => ?_)
              · have q_180 := eqb_f c_179
                refine lv_iload_n hx hb dX11_told_147 rfl (lv_at hl 5 rfl) ?_
                refine lv_bipush (v := 7) hx hb dX11_told_148 (by decide) ?_
                refine lv_icmp_ne (tgt := 168) hx hb dX11_told_150 (by decide) (fun c_181 => ?_) (fun c_181 => ?_)
                · have q_182 := eqb_f c_181
                  refine lv_iload_n hx hb dX11_told_168 rfl (lv_at hl 5 rfl) ?_
                  refine lv_iconst (v := 5) hx hb dX11_told_169 (by decide) ?_
                  refine lv_icmp_le (tgt := 197) hx hb dX11_told_170 (by decide) (fun c_183 => ?_) (fun c_183 => ?_)
                  · have c_183 := Int32.not_lt.mpr c_183
                    refine lv_iload_n hx hb dX11_told_197 rfl (lv_at hl 5 rfl) ?_
                    refine lv_iconst (v := 1) hx hb dX11_told_198 (by decide) ?_
                    refine lv_icmp_eq (tgt := 207) hx hb dX11_told_199 (by decide) (fun c_184 => ?_) (fun c_184 => ?_)
                    · have q_185 := eqb_t c_184
                      refine lv_aload_n hx hb dX11_told_207 rfl (lv_at hl 3 rfl) ?_
                      refine x_get (index := 19) hx hb hts hown hK hI hM 4 (by decide) m_fl_X11_19 rfl dX11_told_208 rfl ?_
                      refine lv_iload_n hx hb dX11_told_211 rfl (lv_at hl 2 rfl) ?_
                      refine x_ld hx hb hK hI hM 4 (by decide) (hw.sh (sh_in h_1)) dX11_told_212 ?_
                      refine lv_i2l hx hb dX11_told_213 rfl ?_
                      refine lv_goto (tgt := 224) hx hb dX11_told_214 (by decide) ?_
                      have e9 : sp_told A s w = ((((A 4 (ix (A 0 (ix s)))) : Int32).toInt64), A) := by
                        simp only [sp_told, rfi, rfj, tlo, thi, tv5, tv7, h_1, h_3, c_5, c_6, h_174, q_178, q_180, q_182, c_183, q_185, reduceIte, Bool.false_eq_true, not_true_eq_false, not_false_eq_true]
                      exact g_lret hx hb hr hlocks hI ⟨_, rfl, by rw [e9], by rw [e9]; exact hM⟩ dX11_told_224 (Nat.le_of_ble_eq_true rfl) (Nat.le_of_ble_eq_true rfl)
                    · have q_186 := eqb_f c_184
                      refine lv_iload_n hx hb dX11_told_202 rfl (lv_at hl 5 rfl) ?_
                      refine lv_iconst (v := 3) hx hb dX11_told_203 (by decide) ?_
                      refine lv_icmp_ne (tgt := 217) hx hb dX11_told_204 (by decide) (fun c_187 => ?_) (fun c_187 => ?_)
                      · have q_188 := eqb_f c_187
                        refine lv_aload_n hx hb dX11_told_217 rfl (lv_at hl 3 rfl) ?_
                        refine x_get (index := 16) hx hb hts hown hK hI hM 3 (by decide) m_fl_X11_16 rfl dX11_told_218 rfl ?_
                        refine lv_iload_n hx hb dX11_told_221 rfl (lv_at hl 2 rfl) ?_
                        refine x_ld hx hb hK hI hM 3 (by decide) (hw.sh (sh_in h_1)) dX11_told_222 ?_
                        refine lv_i2l hx hb dX11_told_223 rfl ?_
                        have e9 : sp_told A s w = ((((A 3 (ix (A 0 (ix s)))) : Int32).toInt64), A) := by
                          simp only [sp_told, rfi, rfj, tlo, thi, tv5, tv7, h_1, h_3, c_5, c_6, h_174, q_178, q_180, q_182, c_183, q_186, q_188, reduceIte, Bool.false_eq_true, not_true_eq_false, not_false_eq_true]
                        exact g_lret hx hb hr hlocks hI ⟨_, rfl, by rw [e9], by rw [e9]; exact hM⟩ dX11_told_224 (Nat.le_of_ble_eq_true rfl) (Nat.le_of_ble_eq_true rfl)
                      · have q_189 := eqb_t c_187
                        refine lv_aload_n hx hb dX11_told_207 rfl (lv_at hl 3 rfl) ?_
                        refine x_get (index := 19) hx hb hts hown hK hI hM 4 (by decide) m_fl_X11_19 rfl dX11_told_208 rfl ?_
                        refine lv_iload_n hx hb dX11_told_211 rfl (lv_at hl 2 rfl) ?_
                        refine x_ld hx hb hK hI hM 4 (by decide) (hw.sh (sh_in h_1)) dX11_told_212 ?_
                        refine lv_i2l hx hb dX11_told_213 rfl ?_
                        refine lv_goto (tgt := 224) hx hb dX11_told_214 (by decide) ?_
                        have e9 : sp_told A s w = ((((A 4 (ix (A 0 (ix s)))) : Int32).toInt64), A) := by
                          simp only [sp_told, rfi, rfj, tlo, thi, tv5, tv7, h_1, h_3, c_5, c_6, h_174, q_178, q_180, q_182, c_183, q_186, q_189, reduceIte, Bool.false_eq_true, not_true_eq_false, not_false_eq_true]
                        exact g_lret hx hb hr hlocks hI ⟨_, rfl, by rw [e9], by rw [e9]; exact hM⟩ dX11_told_224 (Nat.le_of_ble_eq_true rfl) (Nat.le_of_ble_eq_true rfl)
                  · have c_183 := Int32.not_le.mp c_183
                    refine lv_iload_n hx hb dX11_told_173 rfl (lv_at hl 5 rfl) ?_
                    refine lv_bipush (v := 6) hx hb dX11_told_174 (by decide) ?_
                    refine lv_icmp_ne (tgt := 189) hx hb dX11_told_176 (by decide) (fun _ => ?_) (fun c_190 => by first | exact absurd c_179 c_190 | exact absurd c_190 c_179 | (simp_all; done))
                    refine lv_aload_n hx hb dX11_told_189 rfl (lv_at hl 3 rfl) ?_
                    refine x_get (index := 28) hx hb hts hown hK hI hM 7 (by decide) m_fl_X11_28 rfl dX11_told_190 rfl ?_
                    refine lv_iload_n hx hb dX11_told_193 rfl (lv_at hl 2 rfl) ?_
                    refine x_ld hx hb hK hI hM 7 (by decide) (hw.sh (sh_in h_1)) dX11_told_194 ?_
                    refine lv_i2l hx hb dX11_told_195 rfl ?_
                    have e9 : sp_told A s w = ((((A 7 (ix (A 0 (ix s)))) : Int32).toInt64), A) := by
                      simp only [sp_told, rfi, rfj, tlo, thi, tv5, tv7, h_1, h_3, c_5, c_6, h_174, q_178, q_180, q_182, c_183, reduceIte, Bool.false_eq_true, not_true_eq_false, not_false_eq_true]
                    exact g_lret hx hb hr hlocks hI ⟨_, rfl, by rw [e9], by rw [e9]; exact hM⟩ dX11_told_196 (Nat.le_of_ble_eq_true rfl) (Nat.le_of_ble_eq_true rfl)
                · have q_191 := eqb_t c_181
                  refine lv_aload_n hx hb dX11_told_153 rfl (lv_at hl 3 rfl) ?_
                  refine x_get (index := 28) hx hb hts hown hK hI hM 7 (by decide) m_fl_X11_28 rfl dX11_told_154 rfl ?_
                  refine lv_iload_n hx hb dX11_told_157 rfl (lv_at hl 2 rfl) ?_
                  refine x_ld hx hb hK hI hM 7 (by decide) (hw.sh (sh_in h_1)) dX11_told_158 ?_
                  refine lv_if_ge (tgt := 168) hx hb dX11_told_159 (by decide) (fun c_192 => ?_) (fun c_192 => ?_)
                  · have c_192 := Int32.not_lt.mpr c_192
                    refine lv_iload_n hx hb dX11_told_168 rfl (lv_at hl 5 rfl) ?_
                    refine lv_iconst (v := 5) hx hb dX11_told_169 (by decide) ?_
                    refine lv_icmp_le (tgt := 197) hx hb dX11_told_170 (by decide) (fun c_193 => ?_) (fun c_193 => ?_)
                    · have c_193 := Int32.not_lt.mpr c_193
                      refine lv_iload_n hx hb dX11_told_197 rfl (lv_at hl 5 rfl) ?_
                      refine lv_iconst (v := 1) hx hb dX11_told_198 (by decide) ?_
                      refine lv_icmp_eq (tgt := 207) hx hb dX11_told_199 (by decide) (fun c_194 => ?_) (fun c_194 => ?_)
                      · have q_195 := eqb_t c_194
                        refine lv_aload_n hx hb dX11_told_207 rfl (lv_at hl 3 rfl) ?_
                        refine x_get (index := 19) hx hb hts hown hK hI hM 4 (by decide) m_fl_X11_19 rfl dX11_told_208 rfl ?_
                        refine lv_iload_n hx hb dX11_told_211 rfl (lv_at hl 2 rfl) ?_
                        refine x_ld hx hb hK hI hM 4 (by decide) (hw.sh (sh_in h_1)) dX11_told_212 ?_
                        refine lv_i2l hx hb dX11_told_213 rfl ?_
                        refine lv_goto (tgt := 224) hx hb dX11_told_214 (by decide) ?_
                        have e9 : sp_told A s w = ((((A 4 (ix (A 0 (ix s)))) : Int32).toInt64), A) := by
                          simp only [sp_told, rfi, rfj, tlo, thi, tv5, tv7, h_1, h_3, c_5, c_6, h_174, q_178, q_180, q_191, c_192, c_193, q_195, reduceIte, Bool.false_eq_true, not_true_eq_false, not_false_eq_true]
                        exact g_lret hx hb hr hlocks hI ⟨_, rfl, by rw [e9], by rw [e9]; exact hM⟩ dX11_told_224 (Nat.le_of_ble_eq_true rfl) (Nat.le_of_ble_eq_true rfl)
                      · have q_196 := eqb_f c_194
                        refine lv_iload_n hx hb dX11_told_202 rfl (lv_at hl 5 rfl) ?_
                        refine lv_iconst (v := 3) hx hb dX11_told_203 (by decide) ?_
                        refine lv_icmp_ne (tgt := 217) hx hb dX11_told_204 (by decide) (fun c_197 => ?_) (fun c_197 => ?_)
                        · have q_198 := eqb_f c_197
                          refine lv_aload_n hx hb dX11_told_217 rfl (lv_at hl 3 rfl) ?_
                          refine x_get (index := 16) hx hb hts hown hK hI hM 3 (by decide) m_fl_X11_16 rfl dX11_told_218 rfl ?_
                          refine lv_iload_n hx hb dX11_told_221 rfl (lv_at hl 2 rfl) ?_
                          refine x_ld hx hb hK hI hM 3 (by decide) (hw.sh (sh_in h_1)) dX11_told_222 ?_
                          refine lv_i2l hx hb dX11_told_223 rfl ?_
                          have e9 : sp_told A s w = ((((A 3 (ix (A 0 (ix s)))) : Int32).toInt64), A) := by
                            simp only [sp_told, rfi, rfj, tlo, thi, tv5, tv7, h_1, h_3, c_5, c_6, h_174, q_178, q_180, q_191, c_192, c_193, q_196, q_198, reduceIte, Bool.false_eq_true, not_true_eq_false, not_false_eq_true]
                          exact g_lret hx hb hr hlocks hI ⟨_, rfl, by rw [e9], by rw [e9]; exact hM⟩ dX11_told_224 (Nat.le_of_ble_eq_true rfl) (Nat.le_of_ble_eq_true rfl)
                        · have q_199 := eqb_t c_197
                          refine lv_aload_n hx hb dX11_told_207 rfl (lv_at hl 3 rfl) ?_
                          refine x_get (index := 19) hx hb hts hown hK hI hM 4 (by decide) m_fl_X11_19 rfl dX11_told_208 rfl ?_
                          refine lv_iload_n hx hb dX11_told_211 rfl (lv_at hl 2 rfl) ?_
                          refine x_ld hx hb hK hI hM 4 (by decide) (hw.sh (sh_in h_1)) dX11_told_212 ?_
                          refine lv_i2l hx hb dX11_told_213 rfl ?_
                          refine lv_goto (tgt := 224) hx hb dX11_told_214 (by decide) ?_
                          have e9 : sp_told A s w = ((((A 4 (ix (A 0 (ix s)))) : Int32).toInt64), A) := by
                            simp only [sp_told, rfi, rfj, tlo, thi, tv5, tv7, h_1, h_3, c_5, c_6, h_174, q_178, q_180, q_191, c_192, c_193, q_196, q_199, reduceIte, Bool.false_eq_true, not_true_eq_false, not_false_eq_true]
                          exact g_lret hx hb hr hlocks hI ⟨_, rfl, by rw [e9], by rw [e9]; exact hM⟩ dX11_told_224 (Nat.le_of_ble_eq_true rfl) (Nat.le_of_ble_eq_true rfl)
                    · have c_193 := Int32.not_le.mp c_193
                      refine lv_iload_n hx hb dX11_told_173 rfl (lv_at hl 5 rfl) ?_
                      refine lv_bipush (v := 6) hx hb dX11_told_174 (by decide) ?_
                      refine lv_icmp_ne (tgt := 189) hx hb dX11_told_176 (by decide) (fun _ => ?_) (fun c_200 => by first | exact absurd c_179 c_200 | exact absurd c_200 c_179 | (simp_all; done))
                      refine lv_aload_n hx hb dX11_told_189 rfl (lv_at hl 3 rfl) ?_
                      refine x_get (index := 28) hx hb hts hown hK hI hM 7 (by decide) m_fl_X11_28 rfl dX11_told_190 rfl ?_
                      refine lv_iload_n hx hb dX11_told_193 rfl (lv_at hl 2 rfl) ?_
                      refine x_ld hx hb hK hI hM 7 (by decide) (hw.sh (sh_in h_1)) dX11_told_194 ?_
                      refine lv_i2l hx hb dX11_told_195 rfl ?_
                      have e9 : sp_told A s w = ((((A 7 (ix (A 0 (ix s)))) : Int32).toInt64), A) := by
                        simp only [sp_told, rfi, rfj, tlo, thi, tv5, tv7, h_1, h_3, c_5, c_6, h_174, q_178, q_180, q_191, c_192, c_193, reduceIte, Bool.false_eq_true, not_true_eq_false, not_false_eq_true]
                      exact g_lret hx hb hr hlocks hI ⟨_, rfl, by rw [e9], by rw [e9]; exact hM⟩ dX11_told_196 (Nat.le_of_ble_eq_true rfl) (Nat.le_of_ble_eq_true rfl)
                  · have c_192 := Int32.not_le.mp c_192
                    refine lv_aload_n hx hb dX11_told_162 rfl (lv_at hl 3 rfl) ?_
                    refine lv_iconst (v := 1) hx hb dX11_told_163 (by decide) ?_
                    refine g_callV (own := RX11) (index := 90) (n := 1) hx hb hml hown hts (c_X11_refuseLong l E b0 _ mo ma _ hM 1 (vp_in_iff.mpr (by decide))) hM.1 rfl rfl m_ml_X11_90 m_im_X11_refuseLong m_se_X11_X11_refuseLong_X11_refuseLong m_in_X11 m_co_X11_refuseLong (by decide +kernel) ⟨Nat.le_of_ble_eq_true rfl, Nat.le_of_ble_eq_true rfl⟩ ⟨Nat.le_of_ble_eq_true rfl, Nat.le_of_ble_eq_true rfl⟩ rfl hl.1 rfl (Nat.le_of_ble_eq_true rfl) dX11_told_164 hK hI (fun r G1 H1 L1 hp hI => ?_)
                    obtain ⟨v, rfl, ev, hM⟩ := hp
                    subst ev
                    refine W.eq (g2 := F0 mI 167 ls [.long (-9223372036854775708 + ((-10 - 1) : Int32).toInt64)]) rfl ?_
                    have e9 : sp_told A s w = ((-9223372036854775708 + ((-10 - 1) : Int32).toInt64), (rfs A 1)) := by
                      simp only [sp_told, rfi, rfj, tlo, thi, tv5, tv7, h_1, h_3, c_5, c_6, h_174, q_178, q_180, q_191, c_192, reduceIte, Bool.false_eq_true, not_true_eq_false, not_false_eq_true]
                    exact g_lret hx hb hr hlocks hI ⟨_, rfl, by rw [e9], by rw [e9]; exact hM⟩ dX11_told_167 (Nat.le_of_ble_eq_true rfl) (Nat.le_of_ble_eq_true rfl)
              · have q_201 := eqb_t c_179
                refine lv_aload_n hx hb dX11_told_138 rfl (lv_at hl 3 rfl) ?_
                refine x_get (index := 22) hx hb hts hown hK hI hM 5 (by decide) m_fl_X11_22 rfl dX11_told_139 rfl ?_
                refine lv_iload_n hx hb dX11_told_142 rfl (lv_at hl 2 rfl) ?_
                refine x_ld hx hb hK hI hM 5 (by decide) (hw.sh (sh_in h_1)) dX11_told_143 ?_
                refine lv_if_lt (tgt := 162) hx hb dX11_told_144 (by decide) (fun c_202 => ?_) (fun c_202 => ?_)
                · refine lv_aload_n hx hb dX11_told_162 rfl (lv_at hl 3 rfl) ?_
                  refine lv_iconst (v := 1) hx hb dX11_told_163 (by decide) ?_
                  refine g_callV (own := RX11) (index := 90) (n := 1) hx hb hml hown hts (c_X11_refuseLong l E b0 _ mo ma _ hM 1 (vp_in_iff.mpr (by decide))) hM.1 rfl rfl m_ml_X11_90 m_im_X11_refuseLong m_se_X11_X11_refuseLong_X11_refuseLong m_in_X11 m_co_X11_refuseLong (by decide +kernel) ⟨Nat.le_of_ble_eq_true rfl, Nat.le_of_ble_eq_true rfl⟩ ⟨Nat.le_of_ble_eq_true rfl, Nat.le_of_ble_eq_true rfl⟩ rfl hl.1 rfl (Nat.le_of_ble_eq_true rfl) dX11_told_164 hK hI (fun r G1 H1 L1 hp hI => ?_)
                  obtain ⟨v, rfl, ev, hM⟩ := hp
                  subst ev
                  refine W.eq (g2 := F0 mI 167 ls [.long (-9223372036854775708 + ((-10 - 1) : Int32).toInt64)]) rfl ?_
                  have e9 : sp_told A s w = ((-9223372036854775708 + ((-10 - 1) : Int32).toInt64), (rfs A 1)) := by
                    simp only [sp_told, rfi, rfj, tlo, thi, tv5, tv7, h_1, h_3, c_5, c_6, h_174, q_178, q_201, c_202, reduceIte, Bool.false_eq_true, not_true_eq_false, not_false_eq_true]
                  exact g_lret hx hb hr hlocks hI ⟨_, rfl, by rw [e9], by rw [e9]; exact hM⟩ dX11_told_167 (Nat.le_of_ble_eq_true rfl) (Nat.le_of_ble_eq_true rfl)
                · refine lv_iload_n hx hb dX11_told_147 rfl (lv_at hl 5 rfl) ?_
                  refine lv_bipush (v := 7) hx hb dX11_told_148 (by decide) ?_
                  refine lv_icmp_ne (tgt := 168) hx hb dX11_told_150 (by decide) (fun c_203 => ?_) (fun c_203 => ?_)
                  · have q_204 := eqb_f c_203
                    refine lv_iload_n hx hb dX11_told_168 rfl (lv_at hl 5 rfl) ?_
                    refine lv_iconst (v := 5) hx hb dX11_told_169 (by decide) ?_
                    refine lv_icmp_le (tgt := 197) hx hb dX11_told_170 (by decide) (fun c_205 => ?_) (fun c_205 => ?_)
                    · have c_205 := Int32.not_lt.mpr c_205
                      refine lv_iload_n hx hb dX11_told_197 rfl (lv_at hl 5 rfl) ?_
                      refine lv_iconst (v := 1) hx hb dX11_told_198 (by decide) ?_
                      refine lv_icmp_eq (tgt := 207) hx hb dX11_told_199 (by decide) (fun c_206 => ?_) (fun c_206 => ?_)
                      · have q_207 := eqb_t c_206
                        refine lv_aload_n hx hb dX11_told_207 rfl (lv_at hl 3 rfl) ?_
                        refine x_get (index := 19) hx hb hts hown hK hI hM 4 (by decide) m_fl_X11_19 rfl dX11_told_208 rfl ?_
                        refine lv_iload_n hx hb dX11_told_211 rfl (lv_at hl 2 rfl) ?_
                        refine x_ld hx hb hK hI hM 4 (by decide) (hw.sh (sh_in h_1)) dX11_told_212 ?_
                        refine lv_i2l hx hb dX11_told_213 rfl ?_
                        refine lv_goto (tgt := 224) hx hb dX11_told_214 (by decide) ?_
                        have e9 : sp_told A s w = ((((A 4 (ix (A 0 (ix s)))) : Int32).toInt64), A) := by
                          simp only [sp_told, rfi, rfj, tlo, thi, tv5, tv7, h_1, h_3, c_5, c_6, h_174, q_178, q_201, c_202, q_204, c_205, q_207, reduceIte, Bool.false_eq_true, not_true_eq_false, not_false_eq_true]
                        exact g_lret hx hb hr hlocks hI ⟨_, rfl, by rw [e9], by rw [e9]; exact hM⟩ dX11_told_224 (Nat.le_of_ble_eq_true rfl) (Nat.le_of_ble_eq_true rfl)
                      · have q_208 := eqb_f c_206
                        refine lv_iload_n hx hb dX11_told_202 rfl (lv_at hl 5 rfl) ?_
                        refine lv_iconst (v := 3) hx hb dX11_told_203 (by decide) ?_
                        refine lv_icmp_ne (tgt := 217) hx hb dX11_told_204 (by decide) (fun c_209 => ?_) (fun c_209 => ?_)
                        · have q_210 := eqb_f c_209
                          refine lv_aload_n hx hb dX11_told_217 rfl (lv_at hl 3 rfl) ?_
                          refine x_get (index := 16) hx hb hts hown hK hI hM 3 (by decide) m_fl_X11_16 rfl dX11_told_218 rfl ?_
                          refine lv_iload_n hx hb dX11_told_221 rfl (lv_at hl 2 rfl) ?_
                          refine x_ld hx hb hK hI hM 3 (by decide) (hw.sh (sh_in h_1)) dX11_told_222 ?_
                          refine lv_i2l hx hb dX11_told_223 rfl ?_
                          have e9 : sp_told A s w = ((((A 3 (ix (A 0 (ix s)))) : Int32).toInt64), A) := by
                            simp only [sp_told, rfi, rfj, tlo, thi, tv5, tv7, h_1, h_3, c_5, c_6, h_174, q_178, q_201, c_202, q_204, c_205, q_208, q_210, reduceIte, Bool.false_eq_true, not_true_eq_false, not_false_eq_true]
                          exact g_lret hx hb hr hlocks hI ⟨_, rfl, by rw [e9], by rw [e9]; exact hM⟩ dX11_told_224 (Nat.le_of_ble_eq_true rfl) (Nat.le_of_ble_eq_true rfl)
                        · have q_211 := eqb_t c_209
                          refine lv_aload_n hx hb dX11_told_207 rfl (lv_at hl 3 rfl) ?_
                          refine x_get (index := 19) hx hb hts hown hK hI hM 4 (by decide) m_fl_X11_19 rfl dX11_told_208 rfl ?_
                          refine lv_iload_n hx hb dX11_told_211 rfl (lv_at hl 2 rfl) ?_
                          refine x_ld hx hb hK hI hM 4 (by decide) (hw.sh (sh_in h_1)) dX11_told_212 ?_
                          refine lv_i2l hx hb dX11_told_213 rfl ?_
                          refine lv_goto (tgt := 224) hx hb dX11_told_214 (by decide) ?_
                          have e9 : sp_told A s w = ((((A 4 (ix (A 0 (ix s)))) : Int32).toInt64), A) := by
                            simp only [sp_told, rfi, rfj, tlo, thi, tv5, tv7, h_1, h_3, c_5, c_6, h_174, q_178, q_201, c_202, q_204, c_205, q_208, q_211, reduceIte, Bool.false_eq_true, not_true_eq_false, not_false_eq_true]
                          exact g_lret hx hb hr hlocks hI ⟨_, rfl, by rw [e9], by rw [e9]; exact hM⟩ dX11_told_224 (Nat.le_of_ble_eq_true rfl) (Nat.le_of_ble_eq_true rfl)
                    · have c_205 := Int32.not_le.mp c_205
                      refine lv_iload_n hx hb dX11_told_173 rfl (lv_at hl 5 rfl) ?_
                      refine lv_bipush (v := 6) hx hb dX11_told_174 (by decide) ?_
                      refine lv_icmp_ne (tgt := 189) hx hb dX11_told_176 (by decide) (fun c_212 => by first | exact absurd c_179 c_212 | exact absurd c_212 c_179 | (simp_all; done)) (fun _ => ?_)
                      refine lv_aload_n hx hb dX11_told_179 rfl (lv_at hl 3 rfl) ?_
                      refine x_get (index := 22) hx hb hts hown hK hI hM 5 (by decide) m_fl_X11_22 rfl dX11_told_180 rfl ?_
                      refine lv_iload_n hx hb dX11_told_183 rfl (lv_at hl 2 rfl) ?_
                      refine x_ld hx hb hK hI hM 5 (by decide) (hw.sh (sh_in h_1)) dX11_told_184 ?_
                      refine lv_i2l hx hb dX11_told_185 rfl ?_
                      refine lv_goto (tgt := 196) hx hb dX11_told_186 (by decide) ?_
                      have e9 : sp_told A s w = ((((A 5 (ix (A 0 (ix s)))) : Int32).toInt64), A) := by
                        simp only [sp_told, rfi, rfj, tlo, thi, tv5, tv7, h_1, h_3, c_5, c_6, h_174, q_178, q_201, c_202, q_204, c_205, reduceIte, Bool.false_eq_true, not_true_eq_false, not_false_eq_true]
                      exact g_lret hx hb hr hlocks hI ⟨_, rfl, by rw [e9], by rw [e9]; exact hM⟩ dX11_told_196 (Nat.le_of_ble_eq_true rfl) (Nat.le_of_ble_eq_true rfl)
                  · have q_213 := eqb_t c_203
                    refine lv_aload_n hx hb dX11_told_153 rfl (lv_at hl 3 rfl) ?_
                    refine x_get (index := 28) hx hb hts hown hK hI hM 7 (by decide) m_fl_X11_28 rfl dX11_told_154 rfl ?_
                    refine lv_iload_n hx hb dX11_told_157 rfl (lv_at hl 2 rfl) ?_
                    refine x_ld hx hb hK hI hM 7 (by decide) (hw.sh (sh_in h_1)) dX11_told_158 ?_
                    refine lv_if_ge (tgt := 168) hx hb dX11_told_159 (by decide) (fun c_214 => ?_) (fun c_214 => ?_)
                    · have c_214 := Int32.not_lt.mpr c_214
                      refine lv_iload_n hx hb dX11_told_168 rfl (lv_at hl 5 rfl) ?_
                      refine lv_iconst (v := 5) hx hb dX11_told_169 (by decide) ?_
                      refine lv_icmp_le (tgt := 197) hx hb dX11_told_170 (by decide) (fun c_215 => ?_) (fun c_215 => ?_)
                      · have c_215 := Int32.not_lt.mpr c_215
                        refine lv_iload_n hx hb dX11_told_197 rfl (lv_at hl 5 rfl) ?_
                        refine lv_iconst (v := 1) hx hb dX11_told_198 (by decide) ?_
                        refine lv_icmp_eq (tgt := 207) hx hb dX11_told_199 (by decide) (fun c_216 => ?_) (fun c_216 => ?_)
                        · have q_217 := eqb_t c_216
                          refine lv_aload_n hx hb dX11_told_207 rfl (lv_at hl 3 rfl) ?_
                          refine x_get (index := 19) hx hb hts hown hK hI hM 4 (by decide) m_fl_X11_19 rfl dX11_told_208 rfl ?_
                          refine lv_iload_n hx hb dX11_told_211 rfl (lv_at hl 2 rfl) ?_
                          refine x_ld hx hb hK hI hM 4 (by decide) (hw.sh (sh_in h_1)) dX11_told_212 ?_
                          refine lv_i2l hx hb dX11_told_213 rfl ?_
                          refine lv_goto (tgt := 224) hx hb dX11_told_214 (by decide) ?_
                          have e9 : sp_told A s w = ((((A 4 (ix (A 0 (ix s)))) : Int32).toInt64), A) := by
                            simp only [sp_told, rfi, rfj, tlo, thi, tv5, tv7, h_1, h_3, c_5, c_6, h_174, q_178, q_201, c_202, q_213, c_214, c_215, q_217, reduceIte, Bool.false_eq_true, not_true_eq_false, not_false_eq_true]
                          exact g_lret hx hb hr hlocks hI ⟨_, rfl, by rw [e9], by rw [e9]; exact hM⟩ dX11_told_224 (Nat.le_of_ble_eq_true rfl) (Nat.le_of_ble_eq_true rfl)
                        · have q_218 := eqb_f c_216
                          refine lv_iload_n hx hb dX11_told_202 rfl (lv_at hl 5 rfl) ?_
                          refine lv_iconst (v := 3) hx hb dX11_told_203 (by decide) ?_
                          refine lv_icmp_ne (tgt := 217) hx hb dX11_told_204 (by decide) (fun c_219 => ?_) (fun c_219 => ?_)
                          · have q_220 := eqb_f c_219
                            refine lv_aload_n hx hb dX11_told_217 rfl (lv_at hl 3 rfl) ?_
                            refine x_get (index := 16) hx hb hts hown hK hI hM 3 (by decide) m_fl_X11_16 rfl dX11_told_218 rfl ?_
                            refine lv_iload_n hx hb dX11_told_221 rfl (lv_at hl 2 rfl) ?_
                            refine x_ld hx hb hK hI hM 3 (by decide) (hw.sh (sh_in h_1)) dX11_told_222 ?_
                            refine lv_i2l hx hb dX11_told_223 rfl ?_
                            have e9 : sp_told A s w = ((((A 3 (ix (A 0 (ix s)))) : Int32).toInt64), A) := by
                              simp only [sp_told, rfi, rfj, tlo, thi, tv5, tv7, h_1, h_3, c_5, c_6, h_174, q_178, q_201, c_202, q_213, c_214, c_215, q_218, q_220, reduceIte, Bool.false_eq_true, not_true_eq_false, not_false_eq_true]
                            exact g_lret hx hb hr hlocks hI ⟨_, rfl, by rw [e9], by rw [e9]; exact hM⟩ dX11_told_224 (Nat.le_of_ble_eq_true rfl) (Nat.le_of_ble_eq_true rfl)
                          · have q_221 := eqb_t c_219
                            refine lv_aload_n hx hb dX11_told_207 rfl (lv_at hl 3 rfl) ?_
                            refine x_get (index := 19) hx hb hts hown hK hI hM 4 (by decide) m_fl_X11_19 rfl dX11_told_208 rfl ?_
                            refine lv_iload_n hx hb dX11_told_211 rfl (lv_at hl 2 rfl) ?_
                            refine x_ld hx hb hK hI hM 4 (by decide) (hw.sh (sh_in h_1)) dX11_told_212 ?_
                            refine lv_i2l hx hb dX11_told_213 rfl ?_
                            refine lv_goto (tgt := 224) hx hb dX11_told_214 (by decide) ?_
                            have e9 : sp_told A s w = ((((A 4 (ix (A 0 (ix s)))) : Int32).toInt64), A) := by
                              simp only [sp_told, rfi, rfj, tlo, thi, tv5, tv7, h_1, h_3, c_5, c_6, h_174, q_178, q_201, c_202, q_213, c_214, c_215, q_218, q_221, reduceIte, Bool.false_eq_true, not_true_eq_false, not_false_eq_true]
                            exact g_lret hx hb hr hlocks hI ⟨_, rfl, by rw [e9], by rw [e9]; exact hM⟩ dX11_told_224 (Nat.le_of_ble_eq_true rfl) (Nat.le_of_ble_eq_true rfl)
                      · have c_215 := Int32.not_le.mp c_215
                        refine lv_iload_n hx hb dX11_told_173 rfl (lv_at hl 5 rfl) ?_
                        refine lv_bipush (v := 6) hx hb dX11_told_174 (by decide) ?_
                        refine lv_icmp_ne (tgt := 189) hx hb dX11_told_176 (by decide) (fun c_222 => by first | exact absurd c_179 c_222 | exact absurd c_222 c_179 | (simp_all; done)) (fun _ => ?_)
                        refine lv_aload_n hx hb dX11_told_179 rfl (lv_at hl 3 rfl) ?_
                        refine x_get (index := 22) hx hb hts hown hK hI hM 5 (by decide) m_fl_X11_22 rfl dX11_told_180 rfl ?_
                        refine lv_iload_n hx hb dX11_told_183 rfl (lv_at hl 2 rfl) ?_
                        refine x_ld hx hb hK hI hM 5 (by decide) (hw.sh (sh_in h_1)) dX11_told_184 ?_
                        refine lv_i2l hx hb dX11_told_185 rfl ?_
                        refine lv_goto (tgt := 196) hx hb dX11_told_186 (by decide) ?_
                        have e9 : sp_told A s w = ((((A 5 (ix (A 0 (ix s)))) : Int32).toInt64), A) := by
                          simp only [sp_told, rfi, rfj, tlo, thi, tv5, tv7, h_1, h_3, c_5, c_6, h_174, q_178, q_201, c_202, q_213, c_214, c_215, reduceIte, Bool.false_eq_true, not_true_eq_false, not_false_eq_true]
                        exact g_lret hx hb hr hlocks hI ⟨_, rfl, by rw [e9], by rw [e9]; exact hM⟩ dX11_told_196 (Nat.le_of_ble_eq_true rfl) (Nat.le_of_ble_eq_true rfl)
                    · have c_214 := Int32.not_le.mp c_214
                      refine lv_aload_n hx hb dX11_told_162 rfl (lv_at hl 3 rfl) ?_
                      refine lv_iconst (v := 1) hx hb dX11_told_163 (by decide) ?_
                      refine g_callV (own := RX11) (index := 90) (n := 1) hx hb hml hown hts (c_X11_refuseLong l E b0 _ mo ma _ hM 1 (vp_in_iff.mpr (by decide))) hM.1 rfl rfl m_ml_X11_90 m_im_X11_refuseLong m_se_X11_X11_refuseLong_X11_refuseLong m_in_X11 m_co_X11_refuseLong (by decide +kernel) ⟨Nat.le_of_ble_eq_true rfl, Nat.le_of_ble_eq_true rfl⟩ ⟨Nat.le_of_ble_eq_true rfl, Nat.le_of_ble_eq_true rfl⟩ rfl hl.1 rfl (Nat.le_of_ble_eq_true rfl) dX11_told_164 hK hI (fun r G1 H1 L1 hp hI => ?_)
                      obtain ⟨v, rfl, ev, hM⟩ := hp
                      subst ev
                      refine W.eq (g2 := F0 mI 167 ls [.long (-9223372036854775708 + ((-10 - 1) : Int32).toInt64)]) rfl ?_
                      have e9 : sp_told A s w = ((-9223372036854775708 + ((-10 - 1) : Int32).toInt64), (rfs A 1)) := by
                        simp only [sp_told, rfi, rfj, tlo, thi, tv5, tv7, h_1, h_3, c_5, c_6, h_174, q_178, q_201, c_202, q_213, c_214, reduceIte, Bool.false_eq_true, not_true_eq_false, not_false_eq_true]
                      exact g_lret hx hb hr hlocks hI ⟨_, rfl, by rw [e9], by rw [e9]; exact hM⟩ dX11_told_167 (Nat.le_of_ble_eq_true rfl) (Nat.le_of_ble_eq_true rfl)
          · rw [hG] at hI
            refine W.eq (g2 := F0 mI 119 ls [.int 0]) rfl ?_
            refine lv_if_ne (tgt := 128) hx hb dX11_told_119 (by decide) (fun c_223 => absurd c_223 (by decide)) (fun _ => ?_)
            refine lv_aload_n hx hb dX11_told_122 rfl (lv_at hl 3 rfl) ?_
            refine lv_iconst (v := 5) hx hb dX11_told_123 (by decide) ?_
            refine g_callV (own := RX11) (index := 90) (n := 1) hx hb hml hown hts (c_X11_refuseLong l E b0 _ mo ma _ hM 5 (vp_in_iff.mpr (by decide))) hM.1 rfl rfl m_ml_X11_90 m_im_X11_refuseLong m_se_X11_X11_refuseLong_X11_refuseLong m_in_X11 m_co_X11_refuseLong (by decide +kernel) ⟨Nat.le_of_ble_eq_true rfl, Nat.le_of_ble_eq_true rfl⟩ ⟨Nat.le_of_ble_eq_true rfl, Nat.le_of_ble_eq_true rfl⟩ rfl hl.1 rfl (Nat.le_of_ble_eq_true rfl) dX11_told_124 hK hI (fun r G1 H1 L1 hp hI => ?_)
            obtain ⟨v, rfl, ev, hM⟩ := hp
            subst ev
            refine W.eq (g2 := F0 mI 127 ls [.long (-9223372036854775708 + ((-10 - 5) : Int32).toInt64)]) rfl ?_
            have e9 : sp_told A s w = ((-9223372036854775708 + ((-10 - 5) : Int32).toInt64), (rfs A 5)) := by
              simp only [sp_told, rfi, rfj, tlo, thi, tv5, tv7, h_1, h_3, c_5, c_6, h_174, reduceIte, Bool.false_eq_true, not_true_eq_false, not_false_eq_true]
            exact g_lret hx hb hr hlocks hI ⟨_, rfl, by rw [e9], by rw [e9]; exact hM⟩ dX11_told_127 (Nat.le_of_ble_eq_true rfl) (Nat.le_of_ble_eq_true rfl)
      · have c_5 := Int32.not_le.mp c_5
        refine lv_iload_n hx hb dX11_told_33 rfl (lv_at hl 3 rfl) ?_
        refine lv_goto (tgt := 67) hx hb dX11_told_34 (by decide) ?_
        refine lv_istore (lv' := [(4, .int w), (3, .int (A 0 (ix s))), (0, .ref mo), (1, .int s), (2, .int w)]) hx hb dX11_told_67 hl (by decide) rfl (fun ls hl => ?_)
        refine lv_iload_n hx hb dX11_told_69 rfl (lv_at hl 4 rfl) ?_
        refine lv_iconst (v := 2) hx hb dX11_told_70 (by decide) ?_
        refine lv_icmp_ge (tgt := 78) hx hb dX11_told_71 (by decide) (fun c_224 => by have c_224 := Int32.not_lt.mpr c_224; first | exact absurd c_5 c_224 | exact absurd c_224 c_5) (fun _ => ?_)
        refine lv_iconst (v := 1) hx hb dX11_told_74 (by decide) ?_
        refine lv_goto (tgt := 108) hx hb dX11_told_75 (by decide) ?_
        refine lv_istore (lv' := [(5, .int 1), (4, .int w), (3, .int (A 0 (ix s))), (0, .ref mo), (1, .int s), (2, .int w)]) hx hb dX11_told_108 hl (by decide) rfl (fun ls hl => ?_)
        refine lv_aload_n hx hb dX11_told_110 rfl (lv_at hl 3 rfl) ?_
        refine lv_iload_n hx hb dX11_told_111 rfl (lv_at hl 2 rfl) ?_
        refine lv_iload hx hb dX11_told_112 (lv_at hl 1 rfl) ?_
        refine lv_iload hx hb dX11_told_114 (lv_at hl 0 rfl) ?_
        refine g_callV (own := RX11) (index := 76) (n := 3) hx hb hml hown hts (c_X11_fits l E b0 _ mo ma _ hM (A 0 (ix s)) w 1 (hw.sh (sh_in h_1))) hM.1 rfl rfl m_ml_X11_76 m_im_X11_fits m_se_X11_X11_fits_X11_fits m_in_X11 m_co_X11_fits (by decide +kernel) ⟨Nat.le_of_ble_eq_true rfl, Nat.le_of_ble_eq_true rfl⟩ ⟨Nat.le_of_ble_eq_true rfl, Nat.le_of_ble_eq_true rfl⟩ rfl hl.1 rfl (Nat.le_of_ble_eq_true rfl) dX11_told_116 hK hI (fun r G1 H1 L1 hp hI => ?_)
        obtain ⟨v, rfl, hG, ⟨h_225, rfl⟩ | ⟨h_225, rfl⟩⟩ := hp
        · rw [hG] at hI
          refine W.eq (g2 := F0 mI 119 ls [.int 1]) rfl ?_
          refine lv_if_ne (tgt := 128) hx hb dX11_told_119 (by decide) (fun _ => ?_) (fun c_226 => absurd c_226 (by decide))
          refine lv_iload_n hx hb dX11_told_128 rfl (lv_at hl 2 rfl) ?_
          refine lv_if_eq (tgt := 162) hx hb dX11_told_129 (by decide) (fun c_227 => ?_) (fun c_227 => ?_)
          · have q_228 := eqb_t c_227
            refine lv_aload_n hx hb dX11_told_162 rfl (lv_at hl 3 rfl) ?_
            refine lv_iconst (v := 1) hx hb dX11_told_163 (by decide) ?_
            refine g_callV (own := RX11) (index := 90) (n := 1) hx hb hml hown hts (c_X11_refuseLong l E b0 _ mo ma _ hM 1 (vp_in_iff.mpr (by decide))) hM.1 rfl rfl m_ml_X11_90 m_im_X11_refuseLong m_se_X11_X11_refuseLong_X11_refuseLong m_in_X11 m_co_X11_refuseLong (by decide +kernel) ⟨Nat.le_of_ble_eq_true rfl, Nat.le_of_ble_eq_true rfl⟩ ⟨Nat.le_of_ble_eq_true rfl, Nat.le_of_ble_eq_true rfl⟩ rfl hl.1 rfl (Nat.le_of_ble_eq_true rfl) dX11_told_164 hK hI (fun r G1 H1 L1 hp hI => ?_)
            obtain ⟨v, rfl, ev, hM⟩ := hp
            subst ev
            refine W.eq (g2 := F0 mI 167 ls [.long (-9223372036854775708 + ((-10 - 1) : Int32).toInt64)]) rfl ?_
            have e9 : sp_told A s w = ((-9223372036854775708 + ((-10 - 1) : Int32).toInt64), (rfs A 1)) := by
              simp only [sp_told, rfi, rfj, tlo, thi, tv5, tv7, h_1, h_3, c_5, h_225, q_228, reduceIte, Bool.false_eq_true, not_true_eq_false, not_false_eq_true]
            exact g_lret hx hb hr hlocks hI ⟨_, rfl, by rw [e9], by rw [e9]; exact hM⟩ dX11_told_167 (Nat.le_of_ble_eq_true rfl) (Nat.le_of_ble_eq_true rfl)
          · have q_229 := eqb_f c_227
            refine lv_iload_n hx hb dX11_told_132 rfl (lv_at hl 5 rfl) ?_
            refine lv_bipush (v := 6) hx hb dX11_told_133 (by decide) ?_
            refine lv_icmp_ne (tgt := 147) hx hb dX11_told_135 (by decide) (fun c_230 => ?_) (fun c_230 => ?_)
            · have q_231 := eqb_f c_230
              refine lv_iload_n hx hb dX11_told_147 rfl (lv_at hl 5 rfl) ?_
              refine lv_bipush (v := 7) hx hb dX11_told_148 (by decide) ?_
              refine lv_icmp_ne (tgt := 168) hx hb dX11_told_150 (by decide) (fun c_232 => ?_) (fun c_232 => ?_)
              · have q_233 := eqb_f c_232
                refine lv_iload_n hx hb dX11_told_168 rfl (lv_at hl 5 rfl) ?_
                refine lv_iconst (v := 5) hx hb dX11_told_169 (by decide) ?_
                refine lv_icmp_le (tgt := 197) hx hb dX11_told_170 (by decide) (fun c_234 => ?_) (fun c_234 => ?_)
                · have c_234 := Int32.not_lt.mpr c_234
                  refine lv_iload_n hx hb dX11_told_197 rfl (lv_at hl 5 rfl) ?_
                  refine lv_iconst (v := 1) hx hb dX11_told_198 (by decide) ?_
                  refine lv_icmp_eq (tgt := 207) hx hb dX11_told_199 (by decide) (fun c_235 => ?_) (fun c_235 => ?_)
                  · have q_236 := eqb_t c_235
                    refine lv_aload_n hx hb dX11_told_207 rfl (lv_at hl 3 rfl) ?_
                    refine x_get (index := 19) hx hb hts hown hK hI hM 4 (by decide) m_fl_X11_19 rfl dX11_told_208 rfl ?_
                    refine lv_iload_n hx hb dX11_told_211 rfl (lv_at hl 2 rfl) ?_
                    refine x_ld hx hb hK hI hM 4 (by decide) (hw.sh (sh_in h_1)) dX11_told_212 ?_
                    refine lv_i2l hx hb dX11_told_213 rfl ?_
                    refine lv_goto (tgt := 224) hx hb dX11_told_214 (by decide) ?_
                    have e9 : sp_told A s w = ((((A 4 (ix (A 0 (ix s)))) : Int32).toInt64), A) := by
                      simp only [sp_told, rfi, rfj, tlo, thi, tv5, tv7, h_1, h_3, c_5, h_225, q_229, q_231, q_233, c_234, q_236, reduceIte, Bool.false_eq_true, not_true_eq_false, not_false_eq_true]
                    exact g_lret hx hb hr hlocks hI ⟨_, rfl, by rw [e9], by rw [e9]; exact hM⟩ dX11_told_224 (Nat.le_of_ble_eq_true rfl) (Nat.le_of_ble_eq_true rfl)
                  · have q_237 := eqb_f c_235
                    refine lv_iload_n hx hb dX11_told_202 rfl (lv_at hl 5 rfl) ?_
                    refine lv_iconst (v := 3) hx hb dX11_told_203 (by decide) ?_
                    refine lv_icmp_ne (tgt := 217) hx hb dX11_told_204 (by decide) (fun c_238 => ?_) (fun c_238 => ?_)
                    · have q_239 := eqb_f c_238
                      refine lv_aload_n hx hb dX11_told_217 rfl (lv_at hl 3 rfl) ?_
                      refine x_get (index := 16) hx hb hts hown hK hI hM 3 (by decide) m_fl_X11_16 rfl dX11_told_218 rfl ?_
                      refine lv_iload_n hx hb dX11_told_221 rfl (lv_at hl 2 rfl) ?_
                      refine x_ld hx hb hK hI hM 3 (by decide) (hw.sh (sh_in h_1)) dX11_told_222 ?_
                      refine lv_i2l hx hb dX11_told_223 rfl ?_
                      have e9 : sp_told A s w = ((((A 3 (ix (A 0 (ix s)))) : Int32).toInt64), A) := by
                        simp only [sp_told, rfi, rfj, tlo, thi, tv5, tv7, h_1, h_3, c_5, h_225, q_229, q_231, q_233, c_234, q_237, q_239, reduceIte, Bool.false_eq_true, not_true_eq_false, not_false_eq_true]
                      exact g_lret hx hb hr hlocks hI ⟨_, rfl, by rw [e9], by rw [e9]; exact hM⟩ dX11_told_224 (Nat.le_of_ble_eq_true rfl) (Nat.le_of_ble_eq_true rfl)
                    · have q_240 := eqb_t c_238
                      refine lv_aload_n hx hb dX11_told_207 rfl (lv_at hl 3 rfl) ?_
                      refine x_get (index := 19) hx hb hts hown hK hI hM 4 (by decide) m_fl_X11_19 rfl dX11_told_208 rfl ?_
                      refine lv_iload_n hx hb dX11_told_211 rfl (lv_at hl 2 rfl) ?_
                      refine x_ld hx hb hK hI hM 4 (by decide) (hw.sh (sh_in h_1)) dX11_told_212 ?_
                      refine lv_i2l hx hb dX11_told_213 rfl ?_
                      refine lv_goto (tgt := 224) hx hb dX11_told_214 (by decide) ?_
                      have e9 : sp_told A s w = ((((A 4 (ix (A 0 (ix s)))) : Int32).toInt64), A) := by
                        simp only [sp_told, rfi, rfj, tlo, thi, tv5, tv7, h_1, h_3, c_5, h_225, q_229, q_231, q_233, c_234, q_237, q_240, reduceIte, Bool.false_eq_true, not_true_eq_false, not_false_eq_true]
                      exact g_lret hx hb hr hlocks hI ⟨_, rfl, by rw [e9], by rw [e9]; exact hM⟩ dX11_told_224 (Nat.le_of_ble_eq_true rfl) (Nat.le_of_ble_eq_true rfl)
                · have c_234 := Int32.not_le.mp c_234
                  refine lv_iload_n hx hb dX11_told_173 rfl (lv_at hl 5 rfl) ?_
                  refine lv_bipush (v := 6) hx hb dX11_told_174 (by decide) ?_
                  refine lv_icmp_ne (tgt := 189) hx hb dX11_told_176 (by decide) (fun _ => ?_) (fun c_241 => by first | exact absurd c_230 c_241 | exact absurd c_241 c_230 | (simp_all; done))
                  refine lv_aload_n hx hb dX11_told_189 rfl (lv_at hl 3 rfl) ?_
                  refine x_get (index := 28) hx hb hts hown hK hI hM 7 (by decide) m_fl_X11_28 rfl dX11_told_190 rfl ?_
                  refine lv_iload_n hx hb dX11_told_193 rfl (lv_at hl 2 rfl) ?_
                  refine x_ld hx hb hK hI hM 7 (by decide) (hw.sh (sh_in h_1)) dX11_told_194 ?_
                  refine lv_i2l hx hb dX11_told_195 rfl ?_
                  have e9 : sp_told A s w = ((((A 7 (ix (A 0 (ix s)))) : Int32).toInt64), A) := by
                    simp only [sp_told, rfi, rfj, tlo, thi, tv5, tv7, h_1, h_3, c_5, h_225, q_229, q_231, q_233, c_234, reduceIte, Bool.false_eq_true, not_true_eq_false, not_false_eq_true]
                  exact g_lret hx hb hr hlocks hI ⟨_, rfl, by rw [e9], by rw [e9]; exact hM⟩ dX11_told_196 (Nat.le_of_ble_eq_true rfl) (Nat.le_of_ble_eq_true rfl)
              · have q_242 := eqb_t c_232
                refine lv_aload_n hx hb dX11_told_153 rfl (lv_at hl 3 rfl) ?_
                refine x_get (index := 28) hx hb hts hown hK hI hM 7 (by decide) m_fl_X11_28 rfl dX11_told_154 rfl ?_
                refine lv_iload_n hx hb dX11_told_157 rfl (lv_at hl 2 rfl) ?_
                refine x_ld hx hb hK hI hM 7 (by decide) (hw.sh (sh_in h_1)) dX11_told_158 ?_
                refine lv_if_ge (tgt := 168) hx hb dX11_told_159 (by decide) (fun c_243 => ?_) (fun c_243 => ?_)
                · have c_243 := Int32.not_lt.mpr c_243
                  refine lv_iload_n hx hb dX11_told_168 rfl (lv_at hl 5 rfl) ?_
                  refine lv_iconst (v := 5) hx hb dX11_told_169 (by decide) ?_
                  refine lv_icmp_le (tgt := 197) hx hb dX11_told_170 (by decide) (fun c_244 => ?_) (fun c_244 => ?_)
                  · have c_244 := Int32.not_lt.mpr c_244
                    refine lv_iload_n hx hb dX11_told_197 rfl (lv_at hl 5 rfl) ?_
                    refine lv_iconst (v := 1) hx hb dX11_told_198 (by decide) ?_
                    refine lv_icmp_eq (tgt := 207) hx hb dX11_told_199 (by decide) (fun c_245 => ?_) (fun c_245 => ?_)
                    · have q_246 := eqb_t c_245
                      refine lv_aload_n hx hb dX11_told_207 rfl (lv_at hl 3 rfl) ?_
                      refine x_get (index := 19) hx hb hts hown hK hI hM 4 (by decide) m_fl_X11_19 rfl dX11_told_208 rfl ?_
                      refine lv_iload_n hx hb dX11_told_211 rfl (lv_at hl 2 rfl) ?_
                      refine x_ld hx hb hK hI hM 4 (by decide) (hw.sh (sh_in h_1)) dX11_told_212 ?_
                      refine lv_i2l hx hb dX11_told_213 rfl ?_
                      refine lv_goto (tgt := 224) hx hb dX11_told_214 (by decide) ?_
                      have e9 : sp_told A s w = ((((A 4 (ix (A 0 (ix s)))) : Int32).toInt64), A) := by
                        simp only [sp_told, rfi, rfj, tlo, thi, tv5, tv7, h_1, h_3, c_5, h_225, q_229, q_231, q_242, c_243, c_244, q_246, reduceIte, Bool.false_eq_true, not_true_eq_false, not_false_eq_true]
                      exact g_lret hx hb hr hlocks hI ⟨_, rfl, by rw [e9], by rw [e9]; exact hM⟩ dX11_told_224 (Nat.le_of_ble_eq_true rfl) (Nat.le_of_ble_eq_true rfl)
                    · have q_247 := eqb_f c_245
                      refine lv_iload_n hx hb dX11_told_202 rfl (lv_at hl 5 rfl) ?_
                      refine lv_iconst (v := 3) hx hb dX11_told_203 (by decide) ?_
                      refine lv_icmp_ne (tgt := 217) hx hb dX11_told_204 (by decide) (fun c_248 => ?_) (fun c_248 => ?_)
                      · have q_249 := eqb_f c_248
                        refine lv_aload_n hx hb dX11_told_217 rfl (lv_at hl 3 rfl) ?_
                        refine x_get (index := 16) hx hb hts hown hK hI hM 3 (by decide) m_fl_X11_16 rfl dX11_told_218 rfl ?_
                        refine lv_iload_n hx hb dX11_told_221 rfl (lv_at hl 2 rfl) ?_
                        refine x_ld hx hb hK hI hM 3 (by decide) (hw.sh (sh_in h_1)) dX11_told_222 ?_
                        refine lv_i2l hx hb dX11_told_223 rfl ?_
                        have e9 : sp_told A s w = ((((A 3 (ix (A 0 (ix s)))) : Int32).toInt64), A) := by
                          simp only [sp_told, rfi, rfj, tlo, thi, tv5, tv7, h_1, h_3, c_5, h_225, q_229, q_231, q_242, c_243, c_244, q_247, q_249, reduceIte, Bool.false_eq_true, not_true_eq_false, not_false_eq_true]
                        exact g_lret hx hb hr hlocks hI ⟨_, rfl, by rw [e9], by rw [e9]; exact hM⟩ dX11_told_224 (Nat.le_of_ble_eq_true rfl) (Nat.le_of_ble_eq_true rfl)
                      · have q_250 := eqb_t c_248
                        refine lv_aload_n hx hb dX11_told_207 rfl (lv_at hl 3 rfl) ?_
                        refine x_get (index := 19) hx hb hts hown hK hI hM 4 (by decide) m_fl_X11_19 rfl dX11_told_208 rfl ?_
                        refine lv_iload_n hx hb dX11_told_211 rfl (lv_at hl 2 rfl) ?_
                        refine x_ld hx hb hK hI hM 4 (by decide) (hw.sh (sh_in h_1)) dX11_told_212 ?_
                        refine lv_i2l hx hb dX11_told_213 rfl ?_
                        refine lv_goto (tgt := 224) hx hb dX11_told_214 (by decide) ?_
                        have e9 : sp_told A s w = ((((A 4 (ix (A 0 (ix s)))) : Int32).toInt64), A) := by
                          simp only [sp_told, rfi, rfj, tlo, thi, tv5, tv7, h_1, h_3, c_5, h_225, q_229, q_231, q_242, c_243, c_244, q_247, q_250, reduceIte, Bool.false_eq_true, not_true_eq_false, not_false_eq_true]
                        exact g_lret hx hb hr hlocks hI ⟨_, rfl, by rw [e9], by rw [e9]; exact hM⟩ dX11_told_224 (Nat.le_of_ble_eq_true rfl) (Nat.le_of_ble_eq_true rfl)
                  · have c_244 := Int32.not_le.mp c_244
                    refine lv_iload_n hx hb dX11_told_173 rfl (lv_at hl 5 rfl) ?_
                    refine lv_bipush (v := 6) hx hb dX11_told_174 (by decide) ?_
                    refine lv_icmp_ne (tgt := 189) hx hb dX11_told_176 (by decide) (fun _ => ?_) (fun c_251 => by first | exact absurd c_230 c_251 | exact absurd c_251 c_230 | (simp_all; done))
                    refine lv_aload_n hx hb dX11_told_189 rfl (lv_at hl 3 rfl) ?_
                    refine x_get (index := 28) hx hb hts hown hK hI hM 7 (by decide) m_fl_X11_28 rfl dX11_told_190 rfl ?_
                    refine lv_iload_n hx hb dX11_told_193 rfl (lv_at hl 2 rfl) ?_
                    refine x_ld hx hb hK hI hM 7 (by decide) (hw.sh (sh_in h_1)) dX11_told_194 ?_
                    refine lv_i2l hx hb dX11_told_195 rfl ?_
                    have e9 : sp_told A s w = ((((A 7 (ix (A 0 (ix s)))) : Int32).toInt64), A) := by
                      simp only [sp_told, rfi, rfj, tlo, thi, tv5, tv7, h_1, h_3, c_5, h_225, q_229, q_231, q_242, c_243, c_244, reduceIte, Bool.false_eq_true, not_true_eq_false, not_false_eq_true]
                    exact g_lret hx hb hr hlocks hI ⟨_, rfl, by rw [e9], by rw [e9]; exact hM⟩ dX11_told_196 (Nat.le_of_ble_eq_true rfl) (Nat.le_of_ble_eq_true rfl)
                · have c_243 := Int32.not_le.mp c_243
                  refine lv_aload_n hx hb dX11_told_162 rfl (lv_at hl 3 rfl) ?_
                  refine lv_iconst (v := 1) hx hb dX11_told_163 (by decide) ?_
                  refine g_callV (own := RX11) (index := 90) (n := 1) hx hb hml hown hts (c_X11_refuseLong l E b0 _ mo ma _ hM 1 (vp_in_iff.mpr (by decide))) hM.1 rfl rfl m_ml_X11_90 m_im_X11_refuseLong m_se_X11_X11_refuseLong_X11_refuseLong m_in_X11 m_co_X11_refuseLong (by decide +kernel) ⟨Nat.le_of_ble_eq_true rfl, Nat.le_of_ble_eq_true rfl⟩ ⟨Nat.le_of_ble_eq_true rfl, Nat.le_of_ble_eq_true rfl⟩ rfl hl.1 rfl (Nat.le_of_ble_eq_true rfl) dX11_told_164 hK hI (fun r G1 H1 L1 hp hI => ?_)
                  obtain ⟨v, rfl, ev, hM⟩ := hp
                  subst ev
                  refine W.eq (g2 := F0 mI 167 ls [.long (-9223372036854775708 + ((-10 - 1) : Int32).toInt64)]) rfl ?_
                  have e9 : sp_told A s w = ((-9223372036854775708 + ((-10 - 1) : Int32).toInt64), (rfs A 1)) := by
                    simp only [sp_told, rfi, rfj, tlo, thi, tv5, tv7, h_1, h_3, c_5, h_225, q_229, q_231, q_242, c_243, reduceIte, Bool.false_eq_true, not_true_eq_false, not_false_eq_true]
                  exact g_lret hx hb hr hlocks hI ⟨_, rfl, by rw [e9], by rw [e9]; exact hM⟩ dX11_told_167 (Nat.le_of_ble_eq_true rfl) (Nat.le_of_ble_eq_true rfl)
            · have q_252 := eqb_t c_230
              refine lv_aload_n hx hb dX11_told_138 rfl (lv_at hl 3 rfl) ?_
              refine x_get (index := 22) hx hb hts hown hK hI hM 5 (by decide) m_fl_X11_22 rfl dX11_told_139 rfl ?_
              refine lv_iload_n hx hb dX11_told_142 rfl (lv_at hl 2 rfl) ?_
              refine x_ld hx hb hK hI hM 5 (by decide) (hw.sh (sh_in h_1)) dX11_told_143 ?_
              refine lv_if_lt (tgt := 162) hx hb dX11_told_144 (by decide) (fun c_253 => ?_) (fun c_253 => ?_)
              · refine lv_aload_n hx hb dX11_told_162 rfl (lv_at hl 3 rfl) ?_
                refine lv_iconst (v := 1) hx hb dX11_told_163 (by decide) ?_
                refine g_callV (own := RX11) (index := 90) (n := 1) hx hb hml hown hts (c_X11_refuseLong l E b0 _ mo ma _ hM 1 (vp_in_iff.mpr (by decide))) hM.1 rfl rfl m_ml_X11_90 m_im_X11_refuseLong m_se_X11_X11_refuseLong_X11_refuseLong m_in_X11 m_co_X11_refuseLong (by decide +kernel) ⟨Nat.le_of_ble_eq_true rfl, Nat.le_of_ble_eq_true rfl⟩ ⟨Nat.le_of_ble_eq_true rfl, Nat.le_of_ble_eq_true rfl⟩ rfl hl.1 rfl (Nat.le_of_ble_eq_true rfl) dX11_told_164 hK hI (fun r G1 H1 L1 hp hI => ?_)
                obtain ⟨v, rfl, ev, hM⟩ := hp
                subst ev
                refine W.eq (g2 := F0 mI 167 ls [.long (-9223372036854775708 + ((-10 - 1) : Int32).toInt64)]) rfl ?_
                have e9 : sp_told A s w = ((-9223372036854775708 + ((-10 - 1) : Int32).toInt64), (rfs A 1)) := by
                  simp only [sp_told, rfi, rfj, tlo, thi, tv5, tv7, h_1, h_3, c_5, h_225, q_229, q_252, c_253, reduceIte, Bool.false_eq_true, not_true_eq_false, not_false_eq_true]
                exact g_lret hx hb hr hlocks hI ⟨_, rfl, by rw [e9], by rw [e9]; exact hM⟩ dX11_told_167 (Nat.le_of_ble_eq_true rfl) (Nat.le_of_ble_eq_true rfl)
              · refine lv_iload_n hx hb dX11_told_147 rfl (lv_at hl 5 rfl) ?_
                refine lv_bipush (v := 7) hx hb dX11_told_148 (by decide) ?_
                refine lv_icmp_ne (tgt := 168) hx hb dX11_told_150 (by decide) (fun c_254 => ?_) (fun c_254 => ?_)
                · have q_255 := eqb_f c_254
                  refine lv_iload_n hx hb dX11_told_168 rfl (lv_at hl 5 rfl) ?_
                  refine lv_iconst (v := 5) hx hb dX11_told_169 (by decide) ?_
                  refine lv_icmp_le (tgt := 197) hx hb dX11_told_170 (by decide) (fun c_256 => ?_) (fun c_256 => ?_)
                  · have c_256 := Int32.not_lt.mpr c_256
                    refine lv_iload_n hx hb dX11_told_197 rfl (lv_at hl 5 rfl) ?_
                    refine lv_iconst (v := 1) hx hb dX11_told_198 (by decide) ?_
                    refine lv_icmp_eq (tgt := 207) hx hb dX11_told_199 (by decide) (fun c_257 => ?_) (fun c_257 => ?_)
                    · have q_258 := eqb_t c_257
                      refine lv_aload_n hx hb dX11_told_207 rfl (lv_at hl 3 rfl) ?_
                      refine x_get (index := 19) hx hb hts hown hK hI hM 4 (by decide) m_fl_X11_19 rfl dX11_told_208 rfl ?_
                      refine lv_iload_n hx hb dX11_told_211 rfl (lv_at hl 2 rfl) ?_
                      refine x_ld hx hb hK hI hM 4 (by decide) (hw.sh (sh_in h_1)) dX11_told_212 ?_
                      refine lv_i2l hx hb dX11_told_213 rfl ?_
                      refine lv_goto (tgt := 224) hx hb dX11_told_214 (by decide) ?_
                      have e9 : sp_told A s w = ((((A 4 (ix (A 0 (ix s)))) : Int32).toInt64), A) := by
                        simp only [sp_told, rfi, rfj, tlo, thi, tv5, tv7, h_1, h_3, c_5, h_225, q_229, q_252, c_253, q_255, c_256, q_258, reduceIte, Bool.false_eq_true, not_true_eq_false, not_false_eq_true]
                      exact g_lret hx hb hr hlocks hI ⟨_, rfl, by rw [e9], by rw [e9]; exact hM⟩ dX11_told_224 (Nat.le_of_ble_eq_true rfl) (Nat.le_of_ble_eq_true rfl)
                    · have q_259 := eqb_f c_257
                      refine lv_iload_n hx hb dX11_told_202 rfl (lv_at hl 5 rfl) ?_
                      refine lv_iconst (v := 3) hx hb dX11_told_203 (by decide) ?_
                      refine lv_icmp_ne (tgt := 217) hx hb dX11_told_204 (by decide) (fun c_260 => ?_) (fun c_260 => ?_)
                      · have q_261 := eqb_f c_260
                        refine lv_aload_n hx hb dX11_told_217 rfl (lv_at hl 3 rfl) ?_
                        refine x_get (index := 16) hx hb hts hown hK hI hM 3 (by decide) m_fl_X11_16 rfl dX11_told_218 rfl ?_
                        refine lv_iload_n hx hb dX11_told_221 rfl (lv_at hl 2 rfl) ?_
                        refine x_ld hx hb hK hI hM 3 (by decide) (hw.sh (sh_in h_1)) dX11_told_222 ?_
                        refine lv_i2l hx hb dX11_told_223 rfl ?_
                        have e9 : sp_told A s w = ((((A 3 (ix (A 0 (ix s)))) : Int32).toInt64), A) := by
                          simp only [sp_told, rfi, rfj, tlo, thi, tv5, tv7, h_1, h_3, c_5, h_225, q_229, q_252, c_253, q_255, c_256, q_259, q_261, reduceIte, Bool.false_eq_true, not_true_eq_false, not_false_eq_true]
                        exact g_lret hx hb hr hlocks hI ⟨_, rfl, by rw [e9], by rw [e9]; exact hM⟩ dX11_told_224 (Nat.le_of_ble_eq_true rfl) (Nat.le_of_ble_eq_true rfl)
                      · have q_262 := eqb_t c_260
                        refine lv_aload_n hx hb dX11_told_207 rfl (lv_at hl 3 rfl) ?_
                        refine x_get (index := 19) hx hb hts hown hK hI hM 4 (by decide) m_fl_X11_19 rfl dX11_told_208 rfl ?_
                        refine lv_iload_n hx hb dX11_told_211 rfl (lv_at hl 2 rfl) ?_
                        refine x_ld hx hb hK hI hM 4 (by decide) (hw.sh (sh_in h_1)) dX11_told_212 ?_
                        refine lv_i2l hx hb dX11_told_213 rfl ?_
                        refine lv_goto (tgt := 224) hx hb dX11_told_214 (by decide) ?_
                        have e9 : sp_told A s w = ((((A 4 (ix (A 0 (ix s)))) : Int32).toInt64), A) := by
                          simp only [sp_told, rfi, rfj, tlo, thi, tv5, tv7, h_1, h_3, c_5, h_225, q_229, q_252, c_253, q_255, c_256, q_259, q_262, reduceIte, Bool.false_eq_true, not_true_eq_false, not_false_eq_true]
                        exact g_lret hx hb hr hlocks hI ⟨_, rfl, by rw [e9], by rw [e9]; exact hM⟩ dX11_told_224 (Nat.le_of_ble_eq_true rfl) (Nat.le_of_ble_eq_true rfl)
                  · have c_256 := Int32.not_le.mp c_256
                    refine lv_iload_n hx hb dX11_told_173 rfl (lv_at hl 5 rfl) ?_
                    refine lv_bipush (v := 6) hx hb dX11_told_174 (by decide) ?_
                    refine lv_icmp_ne (tgt := 189) hx hb dX11_told_176 (by decide) (fun c_263 => by first | exact absurd c_230 c_263 | exact absurd c_263 c_230 | (simp_all; done)) (fun _ => ?_)
                    refine lv_aload_n hx hb dX11_told_179 rfl (lv_at hl 3 rfl) ?_
                    refine x_get (index := 22) hx hb hts hown hK hI hM 5 (by decide) m_fl_X11_22 rfl dX11_told_180 rfl ?_
                    refine lv_iload_n hx hb dX11_told_183 rfl (lv_at hl 2 rfl) ?_
                    refine x_ld hx hb hK hI hM 5 (by decide) (hw.sh (sh_in h_1)) dX11_told_184 ?_
                    refine lv_i2l hx hb dX11_told_185 rfl ?_
                    refine lv_goto (tgt := 196) hx hb dX11_told_186 (by decide) ?_
                    have e9 : sp_told A s w = ((((A 5 (ix (A 0 (ix s)))) : Int32).toInt64), A) := by
                      simp only [sp_told, rfi, rfj, tlo, thi, tv5, tv7, h_1, h_3, c_5, h_225, q_229, q_252, c_253, q_255, c_256, reduceIte, Bool.false_eq_true, not_true_eq_false, not_false_eq_true]
                    exact g_lret hx hb hr hlocks hI ⟨_, rfl, by rw [e9], by rw [e9]; exact hM⟩ dX11_told_196 (Nat.le_of_ble_eq_true rfl) (Nat.le_of_ble_eq_true rfl)
                · have q_264 := eqb_t c_254
                  refine lv_aload_n hx hb dX11_told_153 rfl (lv_at hl 3 rfl) ?_
                  refine x_get (index := 28) hx hb hts hown hK hI hM 7 (by decide) m_fl_X11_28 rfl dX11_told_154 rfl ?_
                  refine lv_iload_n hx hb dX11_told_157 rfl (lv_at hl 2 rfl) ?_
                  refine x_ld hx hb hK hI hM 7 (by decide) (hw.sh (sh_in h_1)) dX11_told_158 ?_
                  refine lv_if_ge (tgt := 168) hx hb dX11_told_159 (by decide) (fun c_265 => ?_) (fun c_265 => ?_)
                  · have c_265 := Int32.not_lt.mpr c_265
                    refine lv_iload_n hx hb dX11_told_168 rfl (lv_at hl 5 rfl) ?_
                    refine lv_iconst (v := 5) hx hb dX11_told_169 (by decide) ?_
                    refine lv_icmp_le (tgt := 197) hx hb dX11_told_170 (by decide) (fun c_266 => ?_) (fun c_266 => ?_)
                    · have c_266 := Int32.not_lt.mpr c_266
                      refine lv_iload_n hx hb dX11_told_197 rfl (lv_at hl 5 rfl) ?_
                      refine lv_iconst (v := 1) hx hb dX11_told_198 (by decide) ?_
                      refine lv_icmp_eq (tgt := 207) hx hb dX11_told_199 (by decide) (fun c_267 => ?_) (fun c_267 => ?_)
                      · have q_268 := eqb_t c_267
                        refine lv_aload_n hx hb dX11_told_207 rfl (lv_at hl 3 rfl) ?_
                        refine x_get (index := 19) hx hb hts hown hK hI hM 4 (by decide) m_fl_X11_19 rfl dX11_told_208 rfl ?_
                        refine lv_iload_n hx hb dX11_told_211 rfl (lv_at hl 2 rfl) ?_
                        refine x_ld hx hb hK hI hM 4 (by decide) (hw.sh (sh_in h_1)) dX11_told_212 ?_
                        refine lv_i2l hx hb dX11_told_213 rfl ?_
                        refine lv_goto (tgt := 224) hx hb dX11_told_214 (by decide) ?_
                        have e9 : sp_told A s w = ((((A 4 (ix (A 0 (ix s)))) : Int32).toInt64), A) := by
                          simp only [sp_told, rfi, rfj, tlo, thi, tv5, tv7, h_1, h_3, c_5, h_225, q_229, q_252, c_253, q_264, c_265, c_266, q_268, reduceIte, Bool.false_eq_true, not_true_eq_false, not_false_eq_true]
                        exact g_lret hx hb hr hlocks hI ⟨_, rfl, by rw [e9], by rw [e9]; exact hM⟩ dX11_told_224 (Nat.le_of_ble_eq_true rfl) (Nat.le_of_ble_eq_true rfl)
                      · have q_269 := eqb_f c_267
                        refine lv_iload_n hx hb dX11_told_202 rfl (lv_at hl 5 rfl) ?_
                        refine lv_iconst (v := 3) hx hb dX11_told_203 (by decide) ?_
                        refine lv_icmp_ne (tgt := 217) hx hb dX11_told_204 (by decide) (fun c_270 => ?_) (fun c_270 => ?_)
                        · have q_271 := eqb_f c_270
                          refine lv_aload_n hx hb dX11_told_217 rfl (lv_at hl 3 rfl) ?_
                          refine x_get (index := 16) hx hb hts hown hK hI hM 3 (by decide) m_fl_X11_16 rfl dX11_told_218 rfl ?_
                          refine lv_iload_n hx hb dX11_told_221 rfl (lv_at hl 2 rfl) ?_
                          refine x_ld hx hb hK hI hM 3 (by decide) (hw.sh (sh_in h_1)) dX11_told_222 ?_
                          refine lv_i2l hx hb dX11_told_223 rfl ?_
                          have e9 : sp_told A s w = ((((A 3 (ix (A 0 (ix s)))) : Int32).toInt64), A) := by
                            simp only [sp_told, rfi, rfj, tlo, thi, tv5, tv7, h_1, h_3, c_5, h_225, q_229, q_252, c_253, q_264, c_265, c_266, q_269, q_271, reduceIte, Bool.false_eq_true, not_true_eq_false, not_false_eq_true]
                          exact g_lret hx hb hr hlocks hI ⟨_, rfl, by rw [e9], by rw [e9]; exact hM⟩ dX11_told_224 (Nat.le_of_ble_eq_true rfl) (Nat.le_of_ble_eq_true rfl)
                        · have q_272 := eqb_t c_270
                          refine lv_aload_n hx hb dX11_told_207 rfl (lv_at hl 3 rfl) ?_
                          refine x_get (index := 19) hx hb hts hown hK hI hM 4 (by decide) m_fl_X11_19 rfl dX11_told_208 rfl ?_
                          refine lv_iload_n hx hb dX11_told_211 rfl (lv_at hl 2 rfl) ?_
                          refine x_ld hx hb hK hI hM 4 (by decide) (hw.sh (sh_in h_1)) dX11_told_212 ?_
                          refine lv_i2l hx hb dX11_told_213 rfl ?_
                          refine lv_goto (tgt := 224) hx hb dX11_told_214 (by decide) ?_
                          have e9 : sp_told A s w = ((((A 4 (ix (A 0 (ix s)))) : Int32).toInt64), A) := by
                            simp only [sp_told, rfi, rfj, tlo, thi, tv5, tv7, h_1, h_3, c_5, h_225, q_229, q_252, c_253, q_264, c_265, c_266, q_269, q_272, reduceIte, Bool.false_eq_true, not_true_eq_false, not_false_eq_true]
                          exact g_lret hx hb hr hlocks hI ⟨_, rfl, by rw [e9], by rw [e9]; exact hM⟩ dX11_told_224 (Nat.le_of_ble_eq_true rfl) (Nat.le_of_ble_eq_true rfl)
                    · have c_266 := Int32.not_le.mp c_266
                      refine lv_iload_n hx hb dX11_told_173 rfl (lv_at hl 5 rfl) ?_
                      refine lv_bipush (v := 6) hx hb dX11_told_174 (by decide) ?_
                      refine lv_icmp_ne (tgt := 189) hx hb dX11_told_176 (by decide) (fun c_273 => by first | exact absurd c_230 c_273 | exact absurd c_273 c_230 | (simp_all; done)) (fun _ => ?_)
                      refine lv_aload_n hx hb dX11_told_179 rfl (lv_at hl 3 rfl) ?_
                      refine x_get (index := 22) hx hb hts hown hK hI hM 5 (by decide) m_fl_X11_22 rfl dX11_told_180 rfl ?_
                      refine lv_iload_n hx hb dX11_told_183 rfl (lv_at hl 2 rfl) ?_
                      refine x_ld hx hb hK hI hM 5 (by decide) (hw.sh (sh_in h_1)) dX11_told_184 ?_
                      refine lv_i2l hx hb dX11_told_185 rfl ?_
                      refine lv_goto (tgt := 196) hx hb dX11_told_186 (by decide) ?_
                      have e9 : sp_told A s w = ((((A 5 (ix (A 0 (ix s)))) : Int32).toInt64), A) := by
                        simp only [sp_told, rfi, rfj, tlo, thi, tv5, tv7, h_1, h_3, c_5, h_225, q_229, q_252, c_253, q_264, c_265, c_266, reduceIte, Bool.false_eq_true, not_true_eq_false, not_false_eq_true]
                      exact g_lret hx hb hr hlocks hI ⟨_, rfl, by rw [e9], by rw [e9]; exact hM⟩ dX11_told_196 (Nat.le_of_ble_eq_true rfl) (Nat.le_of_ble_eq_true rfl)
                  · have c_265 := Int32.not_le.mp c_265
                    refine lv_aload_n hx hb dX11_told_162 rfl (lv_at hl 3 rfl) ?_
                    refine lv_iconst (v := 1) hx hb dX11_told_163 (by decide) ?_
                    refine g_callV (own := RX11) (index := 90) (n := 1) hx hb hml hown hts (c_X11_refuseLong l E b0 _ mo ma _ hM 1 (vp_in_iff.mpr (by decide))) hM.1 rfl rfl m_ml_X11_90 m_im_X11_refuseLong m_se_X11_X11_refuseLong_X11_refuseLong m_in_X11 m_co_X11_refuseLong (by decide +kernel) ⟨Nat.le_of_ble_eq_true rfl, Nat.le_of_ble_eq_true rfl⟩ ⟨Nat.le_of_ble_eq_true rfl, Nat.le_of_ble_eq_true rfl⟩ rfl hl.1 rfl (Nat.le_of_ble_eq_true rfl) dX11_told_164 hK hI (fun r G1 H1 L1 hp hI => ?_)
                    obtain ⟨v, rfl, ev, hM⟩ := hp
                    subst ev
                    refine W.eq (g2 := F0 mI 167 ls [.long (-9223372036854775708 + ((-10 - 1) : Int32).toInt64)]) rfl ?_
                    have e9 : sp_told A s w = ((-9223372036854775708 + ((-10 - 1) : Int32).toInt64), (rfs A 1)) := by
                      simp only [sp_told, rfi, rfj, tlo, thi, tv5, tv7, h_1, h_3, c_5, h_225, q_229, q_252, c_253, q_264, c_265, reduceIte, Bool.false_eq_true, not_true_eq_false, not_false_eq_true]
                    exact g_lret hx hb hr hlocks hI ⟨_, rfl, by rw [e9], by rw [e9]; exact hM⟩ dX11_told_167 (Nat.le_of_ble_eq_true rfl) (Nat.le_of_ble_eq_true rfl)
        · rw [hG] at hI
          refine W.eq (g2 := F0 mI 119 ls [.int 0]) rfl ?_
          refine lv_if_ne (tgt := 128) hx hb dX11_told_119 (by decide) (fun c_274 => absurd c_274 (by decide)) (fun _ => ?_)
          refine lv_aload_n hx hb dX11_told_122 rfl (lv_at hl 3 rfl) ?_
          refine lv_iconst (v := 5) hx hb dX11_told_123 (by decide) ?_
          refine g_callV (own := RX11) (index := 90) (n := 1) hx hb hml hown hts (c_X11_refuseLong l E b0 _ mo ma _ hM 5 (vp_in_iff.mpr (by decide))) hM.1 rfl rfl m_ml_X11_90 m_im_X11_refuseLong m_se_X11_X11_refuseLong_X11_refuseLong m_in_X11 m_co_X11_refuseLong (by decide +kernel) ⟨Nat.le_of_ble_eq_true rfl, Nat.le_of_ble_eq_true rfl⟩ ⟨Nat.le_of_ble_eq_true rfl, Nat.le_of_ble_eq_true rfl⟩ rfl hl.1 rfl (Nat.le_of_ble_eq_true rfl) dX11_told_124 hK hI (fun r G1 H1 L1 hp hI => ?_)
          obtain ⟨v, rfl, ev, hM⟩ := hp
          subst ev
          refine W.eq (g2 := F0 mI 127 ls [.long (-9223372036854775708 + ((-10 - 5) : Int32).toInt64)]) rfl ?_
          have e9 : sp_told A s w = ((-9223372036854775708 + ((-10 - 5) : Int32).toInt64), (rfs A 5)) := by
            simp only [sp_told, rfi, rfj, tlo, thi, tv5, tv7, h_1, h_3, c_5, h_225, reduceIte, Bool.false_eq_true, not_true_eq_false, not_false_eq_true]
          exact g_lret hx hb hr hlocks hI ⟨_, rfl, by rw [e9], by rw [e9]; exact hM⟩ dX11_told_127 (Nat.le_of_ble_eq_true rfl) (Nat.le_of_ble_eq_true rfl)
    · rw [hG] at hI
      refine W.eq (g2 := F0 mI 14 ls [.int 0]) rfl ?_
      refine lv_if_ne (tgt := 21) hx hb dX11_told_14 (by decide) (fun c_275 => absurd c_275 (by decide)) (fun _ => ?_)
      refine lv_ldc2 hx hb hown (hts _ m_kl_X11_88) dX11_told_17 ?_
      have e9 : sp_told A s w = ((-9223372036854775808), A) := by
        simp only [sp_told, rfi, rfj, tlo, thi, tv5, tv7, h_1, h_3, reduceIte, Bool.false_eq_true, not_true_eq_false, not_false_eq_true]
      exact g_lret hx hb hr hlocks hI ⟨_, rfl, by rw [e9], by rw [e9]; exact hM⟩ dX11_told_20 (Nat.le_of_ble_eq_true rfl) (Nat.le_of_ble_eq_true rfl)
  · rw [hG] at hI
    refine W.eq (g2 := F0 mI 4 ls [.int 0]) rfl ?_
    refine lv_if_eq (tgt := 17) hx hb dX11_told_4 (by decide) (fun _ => ?_) (fun c_276 => absurd c_276 (by decide))
    refine lv_ldc2 hx hb hown (hts _ m_kl_X11_88) dX11_told_17 ?_
    have e9 : sp_told A s w = ((-9223372036854775808), A) := by
      simp only [sp_told, rfi, rfj, tlo, thi, tv5, tv7, h_1, reduceIte, Bool.false_eq_true, not_true_eq_false, not_false_eq_true]
    exact g_lret hx hb hr hlocks hI ⟨_, rfl, by rw [e9], by rw [e9]; exact hM⟩ dX11_told_20 (Nat.le_of_ble_eq_true rfl) (Nat.le_of_ble_eq_true rfl)
set_option maxHeartbeats 4000000 in
set_option maxRecDepth 100000 in
theorem c_X11_same (l : Launch) (E : gE) (b0 : Nat) (G : gG) (mo : Nat) (ma : Nat → Nat) (A : gA) (hM : gMod E mo ma A G) (nn : Nat) (hw : wfb A nn) (s f : Int32) : gM l yX11_same cX11_same 3 (some .int) 5 0 0 E b0 G [.ref mo, .int s, .int f] (pI (fun v9 G1 => v9 = (sp_same A s f).1 ∧ gMod E mo ma (sp_same A s f).2 G1)) := by
  refine gM.of (by decide +kernel) (Nat.le_of_ble_eq_true rfl) ?_
  intro pP eP sP mI bP meth cP ls hx hb hr hml hown hlocks hnm hts hK hI hl
  have hl : lv_has ls 3 [(0, .ref mo), (1, .int s), (2, .int f)] := hl
  have hown : sP.vm.findClass RX11 = some mI.cls := hown
  refine lv_iload_n hx hb dX11_same_0 rfl (lv_at hl 1 rfl) ?_
  refine g_callS (own := RX11) (index := 64) (n := 1) hx hb hml hown hts (c_X11_isShelf l E b0 _ s) m_ml_X11_64 m_st_X11_isShelf m_in_X11 m_co_X11_isShelf (by decide +kernel) ⟨Nat.le_of_ble_eq_true rfl, Nat.le_of_ble_eq_true rfl⟩ ⟨Nat.le_of_ble_eq_true rfl, Nat.le_of_ble_eq_true rfl⟩ rfl hl.1 rfl (Nat.le_of_ble_eq_true rfl) dX11_same_1 hK hI (fun r G1 H1 L1 hp hI => ?_)
  obtain ⟨v, rfl, hG, ⟨h_1, rfl⟩ | ⟨h_1, rfl⟩⟩ := hp
  · rw [hG] at hI
    refine W.eq (g2 := F0 mI 4 ls [.int 1]) rfl ?_
    refine lv_if_eq (tgt := 14) hx hb dX11_same_4 (by decide) (fun c_2 => absurd c_2 (by decide)) (fun _ => ?_)
    refine lv_iload_n hx hb dX11_same_7 rfl (lv_at hl 2 rfl) ?_
    refine g_callS (own := RX11) (index := 64) (n := 1) hx hb hml hown hts (c_X11_isShelf l E b0 _ f) m_ml_X11_64 m_st_X11_isShelf m_in_X11 m_co_X11_isShelf (by decide +kernel) ⟨Nat.le_of_ble_eq_true rfl, Nat.le_of_ble_eq_true rfl⟩ ⟨Nat.le_of_ble_eq_true rfl, Nat.le_of_ble_eq_true rfl⟩ rfl hl.1 rfl (Nat.le_of_ble_eq_true rfl) dX11_same_8 hK hI (fun r G1 H1 L1 hp hI => ?_)
    obtain ⟨v, rfl, hG, ⟨h_3, rfl⟩ | ⟨h_3, rfl⟩⟩ := hp
    · rw [hG] at hI
      refine W.eq (g2 := F0 mI 11 ls [.int 1]) rfl ?_
      refine lv_if_ne (tgt := 16) hx hb dX11_same_11 (by decide) (fun _ => ?_) (fun c_4 => absurd c_4 (by decide))
      refine lv_aload_n hx hb dX11_same_16 rfl (lv_at hl 0 rfl) ?_
      refine x_get (index := 7) hx hb hts hown hK hI hM 0 (by decide) m_fl_X11_7 rfl dX11_same_17 rfl ?_
      refine lv_iload_n hx hb dX11_same_20 rfl (lv_at hl 1 rfl) ?_
      refine x_ld hx hb hK hI hM 0 (by decide) (sh_in h_1) dX11_same_21 ?_
      refine lv_aload_n hx hb dX11_same_22 rfl (lv_at hl 0 rfl) ?_
      refine x_get (index := 7) hx hb hts hown hK hI hM 0 (by decide) m_fl_X11_7 rfl dX11_same_23 rfl ?_
      refine lv_iload_n hx hb dX11_same_26 rfl (lv_at hl 2 rfl) ?_
      refine x_ld hx hb hK hI hM 0 (by decide) (sh_in h_3) dX11_same_27 ?_
      refine lv_icmp_ne (tgt := 35) hx hb dX11_same_28 (by decide) (fun c_5 => ?_) (fun c_5 => ?_)
      · have q_6 := eqb_f c_5
        refine lv_iconst (v := 0) hx hb dX11_same_35 (by decide) ?_
        have e9 : sp_same A s f = (0, A) := by
          simp only [sp_same, rfi, rfj, h_1, h_3, q_6, reduceIte, Bool.false_eq_true, not_true_eq_false, not_false_eq_true]
        exact g_iret hx hb hr hlocks hI ⟨_, rfl, by rw [e9], by rw [e9]; exact hM⟩ dX11_same_36 (Nat.le_of_ble_eq_true rfl) (Nat.le_of_ble_eq_true rfl)
      · have q_7 := eqb_t c_5
        refine lv_iconst (v := 1) hx hb dX11_same_31 (by decide) ?_
        refine lv_goto (tgt := 36) hx hb dX11_same_32 (by decide) ?_
        have e9 : sp_same A s f = (1, A) := by
          simp only [sp_same, rfi, rfj, h_1, h_3, q_7, reduceIte, Bool.false_eq_true, not_true_eq_false, not_false_eq_true]
        exact g_iret hx hb hr hlocks hI ⟨_, rfl, by rw [e9], by rw [e9]; exact hM⟩ dX11_same_36 (Nat.le_of_ble_eq_true rfl) (Nat.le_of_ble_eq_true rfl)
    · rw [hG] at hI
      refine W.eq (g2 := F0 mI 11 ls [.int 0]) rfl ?_
      refine lv_if_ne (tgt := 16) hx hb dX11_same_11 (by decide) (fun c_8 => absurd c_8 (by decide)) (fun _ => ?_)
      refine lv_iconst (v := -1) hx hb dX11_same_14 (by decide) ?_
      have e9 : sp_same A s f = ((-1), A) := by
        simp only [sp_same, rfi, rfj, h_1, h_3, reduceIte, Bool.false_eq_true, not_true_eq_false, not_false_eq_true]
      exact g_iret hx hb hr hlocks hI ⟨_, rfl, by rw [e9], by rw [e9]; exact hM⟩ dX11_same_15 (Nat.le_of_ble_eq_true rfl) (Nat.le_of_ble_eq_true rfl)
  · rw [hG] at hI
    refine W.eq (g2 := F0 mI 4 ls [.int 0]) rfl ?_
    refine lv_if_eq (tgt := 14) hx hb dX11_same_4 (by decide) (fun _ => ?_) (fun c_9 => absurd c_9 (by decide))
    refine lv_iconst (v := -1) hx hb dX11_same_14 (by decide) ?_
    have e9 : sp_same A s f = ((-1), A) := by
      simp only [sp_same, rfi, rfj, h_1, reduceIte, Bool.false_eq_true, not_true_eq_false, not_false_eq_true]
    exact g_iret hx hb hr hlocks hI ⟨_, rfl, by rw [e9], by rw [e9]; exact hM⟩ dX11_same_15 (Nat.le_of_ble_eq_true rfl) (Nat.le_of_ble_eq_true rfl)
set_option maxHeartbeats 4000000 in
set_option maxRecDepth 100000 in
theorem c_X11_count (l : Launch) (E : gE) (b0 : Nat) (G : gG) (mo : Nat) (ma : Nat → Nat) (A : gA) (hM : gMod E mo ma A G) (nn : Nat) (hw : wfb A nn) (w : Int32) : gM l yX11_count cX11_count 2 (some .int) 5 0 0 E b0 G [.ref mo, .int w] (pI (fun v9 G1 => v9 = (sp_count A w).1 ∧ gMod E mo ma (sp_count A w).2 G1)) := by
  refine gM.of (by decide +kernel) (Nat.le_of_ble_eq_true rfl) ?_
  intro pP eP sP mI bP meth cP ls hx hb hr hml hown hlocks hnm hts hK hI hl
  have hl : lv_has ls 2 [(0, .ref mo), (1, .int w)] := hl
  have hown : sP.vm.findClass RX11 = some mI.cls := hown
  refine lv_iload_n hx hb dX11_count_0 rfl (lv_at hl 1 rfl) ?_
  refine lv_iconst (v := 0) hx hb dX11_count_1 (by decide) ?_
  refine lv_bipush (v := 7) hx hb dX11_count_2 (by decide) ?_
  refine g_callS (own := RX11) (index := 50) (n := 3) hx hb hml hown hts (c_X11_in l E b0 _ w 0 7) m_ml_X11_50 m_st_X11_in m_in_X11 m_co_X11_in (by decide +kernel) ⟨Nat.le_of_ble_eq_true rfl, Nat.le_of_ble_eq_true rfl⟩ ⟨Nat.le_of_ble_eq_true rfl, Nat.le_of_ble_eq_true rfl⟩ rfl hl.1 rfl (Nat.le_of_ble_eq_true rfl) dX11_count_4 hK hI (fun r G1 H1 L1 hp hI => ?_)
  obtain ⟨v, rfl, hG, ⟨h_1, rfl⟩ | ⟨h_1, rfl⟩⟩ := hp
  · rw [hG] at hI
    refine W.eq (g2 := F0 mI 7 ls [.int 1]) rfl ?_
    refine lv_if_ne (tgt := 14) hx hb dX11_count_7 (by decide) (fun _ => ?_) (fun c_2 => absurd c_2 (by decide))
    refine lv_iload_n hx hb dX11_count_14 rfl (lv_at hl 1 rfl) ?_
    refine lv_bipush (v := 7) hx hb dX11_count_15 (by decide) ?_
    refine lv_icmp_ne (tgt := 27) hx hb dX11_count_17 (by decide) (fun c_3 => ?_) (fun c_3 => ?_)
    · have q_4 := eqb_f c_3
      refine lv_aload_n hx hb dX11_count_27 rfl (lv_at hl 0 rfl) ?_
      refine x_get (index := 47) hx hb hts hown hK hI hM 13 (by decide) m_fl_X11_47 rfl dX11_count_28 rfl ?_
      refine lv_iload_n hx hb dX11_count_31 rfl (lv_at hl 1 rfl) ?_
      refine x_ld hx hb hK hI hM 13 (by decide) (cnt_in h_1 c_3) dX11_count_32 ?_
      have e9 : sp_count A w = ((A 13 (ix w)), A) := by
        simp only [sp_count, rfi, rfj, h_1, q_4, reduceIte, Bool.false_eq_true, not_true_eq_false, not_false_eq_true]
      exact g_iret hx hb hr hlocks hI ⟨_, rfl, by rw [e9], by rw [e9]; exact hM⟩ dX11_count_33 (Nat.le_of_ble_eq_true rfl) (Nat.le_of_ble_eq_true rfl)
    · have q_5 := eqb_t c_3
      refine lv_aload_n hx hb dX11_count_20 rfl (lv_at hl 0 rfl) ?_
      refine x_get (index := 97) hx hb hts hown hK hI hM 14 (by decide) m_fl_X11_97 rfl dX11_count_21 rfl ?_
      refine lv_goto (tgt := 33) hx hb dX11_count_24 (by decide) ?_
      have e9 : sp_count A w = ((A 14 0), A) := by
        simp only [sp_count, rfi, rfj, h_1, q_5, reduceIte, Bool.false_eq_true, not_true_eq_false, not_false_eq_true]
      exact g_iret hx hb hr hlocks hI ⟨_, rfl, by rw [e9], by rw [e9]; exact hM⟩ dX11_count_33 (Nat.le_of_ble_eq_true rfl) (Nat.le_of_ble_eq_true rfl)
  · rw [hG] at hI
    refine W.eq (g2 := F0 mI 7 ls [.int 0]) rfl ?_
    refine lv_if_ne (tgt := 14) hx hb dX11_count_7 (by decide) (fun c_6 => absurd c_6 (by decide)) (fun _ => ?_)
    refine lv_iconst (v := -1) hx hb dX11_count_10 (by decide) ?_
    refine lv_goto (tgt := 33) hx hb dX11_count_11 (by decide) ?_
    have e9 : sp_count A w = ((-1), A) := by
      simp only [sp_count, rfi, rfj, h_1, reduceIte, Bool.false_eq_true, not_true_eq_false, not_false_eq_true]
    exact g_iret hx hb hr hlocks hI ⟨_, rfl, by rw [e9], by rw [e9]; exact hM⟩ dX11_count_33 (Nat.le_of_ble_eq_true rfl) (Nat.le_of_ble_eq_true rfl)
