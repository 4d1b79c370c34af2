set_option maxHeartbeats 4000000 in
set_option maxRecDepth 100000 in
theorem c_X11_newRow (l : Launch) (E : gE) (b0 : Nat) (G : gG) (mo : Nat) (ma : Nat → Nat) (A : gA) (hM : gMod E mo ma A G) (h n : Int32) (hh : vp_in h 700) : gM l yX11_newRow cX11_newRow 4 none 0 0 0 E b0 G [.ref mo, .int h, .int n] (pV (fun G1 => gMod E mo ma (nrw A h n) G1)) := by
  refine gM.of (by decide +kernel) (Nat.le_of_ble_eq_true rfl) ?_
  intro pP eP sP mI bP meth cP ls hx hb hr hml hown hlocks hnm hts hK hI hl
  have hl : lv_has ls 4 [(0, .ref mo), (1, .int h), (2, .int n)] := hl
  have hown : sP.vm.findClass RX11 = some mI.cls := hown
  refine lv_aload_n hx hb dX11_newRow_0 rfl (lv_at hl 0 rfl) ?_
  refine x_get (index := 22) hx hb hts hown hK hI hM 5 (by decide) m_fl_X11_22 rfl dX11_newRow_1 rfl ?_
  refine lv_iload_n hx hb dX11_newRow_4 rfl (lv_at hl 1 rfl) ?_
  refine lv_iload_n hx hb dX11_newRow_5 rfl (lv_at hl 2 rfl) ?_
  refine x_st hx hb hK hI hM 5 (by decide) hh dX11_newRow_6 (fun G1 H1 L1 hM hI => ?_)
  refine lv_iconst (v := 0) hx hb dX11_newRow_7 (by decide) ?_
  refine lv_istore_n (lv' := [(3, .int 0), (0, .ref mo), (1, .int h), (2, .int n)]) hx hb dX11_newRow_8 rfl hl (by decide) rfl (fun ls hl => ?_)
  have key : ∀ (j : Nat) (k : Nat) (G1 : gG) (H1 : Heap) (L1 : List Loc) (ls : Array Slot), k + j = 30 → gMod E mo ma (z2 (u2 A 5 (ix h) n) 6 (30 * ix h) k) G1 → gI E.1 b0 G sP.heap G1 H1 L1 → lv_has ls 4 [(3, .int (nI k)), (0, .ref mo), (1, .int h), (2, .int n)] → W pP l eP (rmL 0 0 0) sP mI [.ref mo, .int h, .int n].toArray bP meth cP H1 L1 0 0 (MQ bP (gQ E b0 G (pV (fun G1 => gMod E mo ma (nrw A h n) G1))) [.ref mo, .int h, .int n].toArray sP 0 0 (fun q => b0 ≤ q)) (F0 mI 9 ls []) := by
    intro j
    induction j with
    | zero =>
      intro k G1 H1 L1 ls hk hM hI hl
      have hlt : ¬ nI k < 30 := by rw [show k = 30 by omega]; decide
      refine lv_iload_n hx hb dX11_newRow_9 rfl (lv_at hl 0 rfl) ?_
      refine lv_bipush (v := 30) hx hb dX11_newRow_10 (by decide) ?_
      refine lv_icmp_ge (tgt := 33) hx hb dX11_newRow_12 (by decide) (fun _ => ?_) (fun c_1 => by have c_1 := Int32.not_le.mp c_1; first | exact absurd hlt c_1 | exact absurd c_1 hlt)
      exact g_vret hx hb hr hlocks hI ⟨rfl, by rw [show k = 30 by omega] at hM; exact hM⟩ dX11_newRow_33 (Nat.le_of_ble_eq_true rfl) (Nat.le_of_ble_eq_true rfl)
    | succ j ih =>
      intro k G1 H1 L1 ls hk hM hI hl
      have hlt : nI k < 30 := nI_lt (a := k) (b := 30) (by omega) (by decide)
      refine lv_iload_n hx hb dX11_newRow_9 rfl (lv_at hl 0 rfl) ?_
      refine lv_bipush (v := 30) hx hb dX11_newRow_10 (by decide) ?_
      refine lv_icmp_ge (tgt := 33) hx hb dX11_newRow_12 (by decide) (fun c_2 => by have c_2 := Int32.not_lt.mpr c_2; first | exact absurd hlt c_2 | exact absurd c_2 hlt) (fun _ => ?_)
      refine lv_aload_n hx hb dX11_newRow_15 rfl (lv_at hl 1 rfl) ?_
      refine x_get (index := 25) hx hb hts hown hK hI hM 6 (by decide) m_fl_X11_25 rfl dX11_newRow_16 rfl ?_
      refine lv_bipush (v := 30) hx hb dX11_newRow_19 (by decide) ?_
      refine lv_iload_n hx hb dX11_newRow_21 rfl (lv_at hl 2 rfl) ?_
      refine lv_imul hx hb dX11_newRow_22 ?_
      refine lv_iload_n hx hb dX11_newRow_23 rfl (lv_at hl 0 rfl) ?_
      refine lv_iadd hx hb dX11_newRow_24 ?_
      refine lv_iconst (v := 0) hx hb dX11_newRow_25 (by decide) ?_
      refine x_st hx hb hK hI hM 6 (by decide) (ix30 hh (show k < 30 by omega)).1 dX11_newRow_26 (fun G1 H1 L1 hM hI => ?_)
      refine lv_iinc (v := ((nI k) + 1)) (lv' := [(3, .int ((nI k) + 1)), (0, .ref mo), (1, .int h), (2, .int n)]) hx hb dX11_newRow_27 hl (k := 0) rfl rfl (by decide) rfl (fun ls hl => ?_)
      refine lv_goto (tgt := 9) hx hb dX11_newRow_30 (by decide) ?_
      rw [(ix30 hh (show k < 30 by omega)).2, z2_s] at hM
      exact ih (k + 1) _ _ _ ls (by omega) hM hI (by rw [nI_1] at hl; exact hl)
  exact key 30 0 _ _ _ ls rfl (by rw [z2_0]; exact hM) hI (by rw [nI_0]; exact hl)
set_option maxHeartbeats 4000000 in
set_option maxRecDepth 100000 in
theorem c_X11_hive (l : Launch) (E : gE) (b0 : Nat) (G : gG) (mo : Nat) (ma : Nat → Nat) (A : gA) (hM : gMod E mo ma A G) (nn : Nat) (hw : wfb A nn) (s b n : Int32) : gM l yX11_hive cX11_hive 5 (some .int) 5 0 0 E b0 G [.ref mo, .int s, .int b, .int n] (pI (fun v9 G1 => v9 = (sp_hive A s b n).1 ∧ gMod E mo ma (sp_hive A s b n).2 G1)) := by
  refine gM.of (by decide +kernel) (Nat.le_of_ble_eq_true rfl) ?_
  intro pP eP sP mI bP meth cP ls hx hb hr hml hown hlocks hnm hts hK hI hl
  have hl : lv_has ls 5 [(0, .ref mo), (1, .int s), (2, .int b), (3, .int n)] := hl
  have hown : sP.vm.findClass RX11 = some mI.cls := hown
  refine lv_iload_n hx hb dX11_hive_0 rfl (lv_at hl 1 rfl) ?_
  refine g_callS (own := RX11) (index := 64) (n := 1) hx hb hml hown hts (c_X11_isShelf l E b0 _ s) m_ml_X11_64 m_st_X11_isShelf m_in_X11 m_co_X11_isShelf (by decide +kernel) ⟨Nat.le_of_ble_eq_true rfl, Nat.le_of_ble_eq_true rfl⟩ ⟨Nat.le_of_ble_eq_true rfl, Nat.le_of_ble_eq_true rfl⟩ rfl hl.1 rfl (Nat.le_of_ble_eq_true rfl) dX11_hive_1 hK hI (fun r G1 H1 L1 hp hI => ?_)
  obtain ⟨v, rfl, hG, ⟨h_1, rfl⟩ | ⟨h_1, rfl⟩⟩ := hp
  · rw [hG] at hI
    refine W.eq (g2 := F0 mI 4 ls [.int 1]) rfl ?_
    refine lv_if_eq (tgt := 13) hx hb dX11_hive_4 (by decide) (fun c_2 => absurd c_2 (by decide)) (fun _ => ?_)
    refine lv_iload_n hx hb dX11_hive_7 rfl (lv_at hl 3 rfl) ?_
    refine lv_bipush (v := 30) hx hb dX11_hive_8 (by decide) ?_
    refine lv_icmp_le (tgt := 15) hx hb dX11_hive_10 (by decide) (fun c_3 => ?_) (fun c_3 => ?_)
    · have c_3 := Int32.not_lt.mpr c_3
      refine lv_iload_n hx hb dX11_hive_15 rfl (lv_at hl 3 rfl) ?_
      refine lv_if_ge (tgt := 25) hx hb dX11_hive_16 (by decide) (fun c_4 => ?_) (fun c_4 => ?_)
      · have c_4 := Int32.not_lt.mpr c_4
        refine lv_aload_n hx hb dX11_hive_25 rfl (lv_at hl 0 rfl) ?_
        refine lv_iload_n hx hb dX11_hive_26 rfl (lv_at hl 2 rfl) ?_
        refine lv_if_eq (tgt := 35) hx hb dX11_hive_27 (by decide) (fun c_5 => ?_) (fun c_5 => ?_)
        · have q_6 := eqb_t c_5
          refine lv_bipush (v := 6) hx hb dX11_hive_35 (by decide) ?_
          refine lv_iconst (v := 0) hx hb dX11_hive_37 (by decide) ?_
          refine g_callV (own := RX11) (index := 68) (n := 2) hx hb hml hown hts (c_X11_thing l E b0 _ mo ma _ hM 6 0 hw.nx) hM.1 rfl rfl m_ml_X11_68 m_im_X11_thing m_se_X11_X11_thing_X11_thing m_in_X11 m_co_X11_thing (by decide +kernel) ⟨Nat.le_of_ble_eq_true rfl, Nat.le_of_ble_eq_true rfl⟩ ⟨Nat.le_of_ble_eq_true rfl, Nat.le_of_ble_eq_true rfl⟩ rfl hl.1 rfl (Nat.le_of_ble_eq_true rfl) dX11_hive_38 hK hI (fun r G1 H1 L1 hp hI => ?_)
          obtain ⟨v, rfl, ev, hM⟩ := hp
          subst ev
          refine W.eq (g2 := F0 mI 41 ls [.int (A 1 0 + 1)]) rfl ?_
          refine lv_istore (lv' := [(4, .int (A 1 0 + 1)), (0, .ref mo), (1, .int s), (2, .int b), (3, .int n)]) hx hb dX11_hive_41 hl (by decide) rfl (fun ls hl => ?_)
          refine lv_aload_n hx hb dX11_hive_43 rfl (lv_at hl 1 rfl) ?_
          refine lv_iload hx hb dX11_hive_44 (lv_at hl 0 rfl) ?_
          refine lv_iload_n hx hb dX11_hive_46 rfl (lv_at hl 4 rfl) ?_
          refine g_callV (own := RX11) (index := 72) (n := 2) hx hb hml hown hts (c_X11_newRow l E b0 _ mo ma _ hM (A 1 0 + 1) n hw.nx) hM.1 rfl rfl m_ml_X11_72 m_im_X11_newRow m_se_X11_X11_newRow_X11_newRow m_in_X11 m_co_X11_newRow (by decide +kernel) ⟨Nat.le_of_ble_eq_true rfl, Nat.le_of_ble_eq_true rfl⟩ ⟨Nat.le_of_ble_eq_true rfl, Nat.le_of_ble_eq_true rfl⟩ rfl hl.1 rfl (Nat.le_of_ble_eq_true rfl) dX11_hive_47 hK hI (fun r G1 H1 L1 hp hI => ?_)
          obtain ⟨rfl, hM⟩ := hp
          refine W.eq (g2 := F0 mI 50 ls []) rfl ?_
          refine lv_aload_n hx hb dX11_hive_50 rfl (lv_at hl 1 rfl) ?_
          refine x_get (index := 7) hx hb hts hown hK hI hM 0 (by decide) m_fl_X11_7 rfl dX11_hive_51 rfl ?_
          refine lv_iload_n hx hb dX11_hive_54 rfl (lv_at hl 2 rfl) ?_
          refine lv_iload hx hb dX11_hive_55 (lv_at hl 0 rfl) ?_
          refine x_st hx hb hK hI hM 0 (by decide) (sh_in h_1) dX11_hive_57 (fun G1 H1 L1 hM hI => ?_)
          refine lv_iload_n hx hb dX11_hive_58 rfl (lv_at hl 4 rfl) ?_
          have e9 : sp_hive A s b n = (n, (u2 (nrw (nthg A 6 0) (A 1 0 + 1) n) 0 (ix s) (A 1 0 + 1))) := by
            simp only [sp_hive, rfi, rfj, h_1, c_3, c_4, q_6, reduceIte, Bool.false_eq_true, not_true_eq_false, not_false_eq_true]
          exact g_iret hx hb hr hlocks hI ⟨_, rfl, by rw [e9], by rw [e9]; exact hM⟩ dX11_hive_59 (Nat.le_of_ble_eq_true rfl) (Nat.le_of_ble_eq_true rfl)
        · have q_7 := eqb_f c_5
          refine lv_bipush (v := 7) hx hb dX11_hive_30 (by decide) ?_
          refine lv_goto (tgt := 37) hx hb dX11_hive_32 (by decide) ?_
          refine lv_iconst (v := 0) hx hb dX11_hive_37 (by decide) ?_
          refine g_callV (own := RX11) (index := 68) (n := 2) hx hb hml hown hts (c_X11_thing l E b0 _ mo ma _ hM 7 0 hw.nx) hM.1 rfl rfl m_ml_X11_68 m_im_X11_thing m_se_X11_X11_thing_X11_thing m_in_X11 m_co_X11_thing (by decide +kernel) ⟨Nat.le_of_ble_eq_true rfl, Nat.le_of_ble_eq_true rfl⟩ ⟨Nat.le_of_ble_eq_true rfl, Nat.le_of_ble_eq_true rfl⟩ rfl hl.1 rfl (Nat.le_of_ble_eq_true rfl) dX11_hive_38 hK hI (fun r G1 H1 L1 hp hI => ?_)
          obtain ⟨v, rfl, ev, hM⟩ := hp
          subst ev
          refine W.eq (g2 := F0 mI 41 ls [.int (A 1 0 + 1)]) rfl ?_
          refine lv_istore (lv' := [(4, .int (A 1 0 + 1)), (0, .ref mo), (1, .int s), (2, .int b), (3, .int n)]) hx hb dX11_hive_41 hl (by decide) rfl (fun ls hl => ?_)
          refine lv_aload_n hx hb dX11_hive_43 rfl (lv_at hl 1 rfl) ?_
          refine lv_iload hx hb dX11_hive_44 (lv_at hl 0 rfl) ?_
          refine lv_iload_n hx hb dX11_hive_46 rfl (lv_at hl 4 rfl) ?_
          refine g_callV (own := RX11) (index := 72) (n := 2) hx hb hml hown hts (c_X11_newRow l E b0 _ mo ma _ hM (A 1 0 + 1) n hw.nx) hM.1 rfl rfl m_ml_X11_72 m_im_X11_newRow m_se_X11_X11_newRow_X11_newRow m_in_X11 m_co_X11_newRow (by decide +kernel) ⟨Nat.le_of_ble_eq_true rfl, Nat.le_of_ble_eq_true rfl⟩ ⟨Nat.le_of_ble_eq_true rfl, Nat.le_of_ble_eq_true rfl⟩ rfl hl.1 rfl (Nat.le_of_ble_eq_true rfl) dX11_hive_47 hK hI (fun r G1 H1 L1 hp hI => ?_)
          obtain ⟨rfl, hM⟩ := hp
          refine W.eq (g2 := F0 mI 50 ls []) rfl ?_
          refine lv_aload_n hx hb dX11_hive_50 rfl (lv_at hl 1 rfl) ?_
          refine x_get (index := 7) hx hb hts hown hK hI hM 0 (by decide) m_fl_X11_7 rfl dX11_hive_51 rfl ?_
          refine lv_iload_n hx hb dX11_hive_54 rfl (lv_at hl 2 rfl) ?_
          refine lv_iload hx hb dX11_hive_55 (lv_at hl 0 rfl) ?_
          refine x_st hx hb hK hI hM 0 (by decide) (sh_in h_1) dX11_hive_57 (fun G1 H1 L1 hM hI => ?_)
          refine lv_iload_n hx hb dX11_hive_58 rfl (lv_at hl 4 rfl) ?_
          have e9 : sp_hive A s b n = (n, (u2 (nrw (nthg A 7 0) (A 1 0 + 1) n) 0 (ix s) (A 1 0 + 1))) := by
            simp only [sp_hive, rfi, rfj, h_1, c_3, c_4, q_7, reduceIte, Bool.false_eq_true, not_true_eq_false, not_false_eq_true]
          exact g_iret hx hb hr hlocks hI ⟨_, rfl, by rw [e9], by rw [e9]; exact hM⟩ dX11_hive_59 (Nat.le_of_ble_eq_true rfl) (Nat.le_of_ble_eq_true rfl)
      · have c_4 := Int32.not_le.mp c_4
        refine lv_aload_n hx hb dX11_hive_19 rfl (lv_at hl 0 rfl) ?_
        refine lv_iconst (v := 2) hx hb dX11_hive_20 (by decide) ?_
        refine g_callV (own := RX11) (index := 56) (n := 1) hx hb hml hown hts (c_X11_refuse l E b0 _ mo ma _ hM 2 (vp_in_iff.mpr (by decide))) hM.1 rfl rfl m_ml_X11_56 m_im_X11_refuse m_se_X11_X11_refuse_X11_refuse m_in_X11 m_co_X11_refuse (by decide +kernel) ⟨Nat.le_of_ble_eq_true rfl, Nat.le_of_ble_eq_true rfl⟩ ⟨Nat.le_of_ble_eq_true rfl, Nat.le_of_ble_eq_true rfl⟩ rfl hl.1 rfl (Nat.le_of_ble_eq_true rfl) dX11_hive_21 hK hI (fun r G1 H1 L1 hp hI => ?_)
        obtain ⟨v, rfl, ev, hM⟩ := hp
        subst ev
        refine W.eq (g2 := F0 mI 24 ls [.int (-10 - 2)]) rfl ?_
        have e9 : sp_hive A s b n = ((-10 - 2), (rfs A 2)) := by
          simp only [sp_hive, rfi, rfj, h_1, c_3, c_4, reduceIte, Bool.false_eq_true, not_true_eq_false, not_false_eq_true]
        exact g_iret hx hb hr hlocks hI ⟨_, rfl, by rw [e9], by rw [e9]; exact hM⟩ dX11_hive_24 (Nat.le_of_ble_eq_true rfl) (Nat.le_of_ble_eq_true rfl)
    · have c_3 := Int32.not_le.mp c_3
      refine lv_iconst (v := -1) hx hb dX11_hive_13 (by decide) ?_
      have e9 : sp_hive A s b n = ((-1), A) := by
        simp only [sp_hive, rfi, rfj, h_1, c_3, reduceIte, Bool.false_eq_true, not_true_eq_false, not_false_eq_true]
      exact g_iret hx hb hr hlocks hI ⟨_, rfl, by rw [e9], by rw [e9]; exact hM⟩ dX11_hive_14 (Nat.le_of_ble_eq_true rfl) (Nat.le_of_ble_eq_true rfl)
  · rw [hG] at hI
    refine W.eq (g2 := F0 mI 4 ls [.int 0]) rfl ?_
    refine lv_if_eq (tgt := 13) hx hb dX11_hive_4 (by decide) (fun _ => ?_) (fun c_8 => absurd c_8 (by decide))
    refine lv_iconst (v := -1) hx hb dX11_hive_13 (by decide) ?_
    have e9 : sp_hive A s b n = ((-1), A) := by
      simp only [sp_hive, rfi, rfj, h_1, reduceIte, Bool.false_eq_true, not_true_eq_false, not_false_eq_true]
    exact g_iret hx hb hr hlocks hI ⟨_, rfl, by rw [e9], by rw [e9]; exact hM⟩ dX11_hive_14 (Nat.le_of_ble_eq_true rfl) (Nat.le_of_ble_eq_true rfl)
set_option maxHeartbeats 4000000 in
set_option maxRecDepth 100000 in
theorem c_X11_row (l : Launch) (E : gE) (b0 : Nat) (G : gG) (mo : Nat) (ma : Nat → Nat) (A : gA) (hM : gMod E mo ma A G) (nn : Nat) (hw : wfb A nn) (s n : Int32) : gM l yX11_row cX11_row 3 (some .int) 5 0 0 E b0 G [.ref mo, .int s, .int n] (pI (fun v9 G1 => v9 = (sp_row A s n).1 ∧ gMod E mo ma (sp_row A s n).2 G1)) := by
  refine gM.of (by decide +kernel) (Nat.le_of_ble_eq_true rfl) ?_
  intro pP eP sP mI bP meth cP ls hx hb hr hml hown hlocks hnm hts hK hI hl
  have hl : lv_has ls 3 [(0, .ref mo), (1, .int s), (2, .int n)] := hl
  have hown : sP.vm.findClass RX11 = some mI.cls := hown
  refine lv_iload_n hx hb dX11_row_0 rfl (lv_at hl 1 rfl) ?_
  refine g_callS (own := RX11) (index := 64) (n := 1) hx hb hml hown hts (c_X11_isShelf l E b0 _ s) m_ml_X11_64 m_st_X11_isShelf m_in_X11 m_co_X11_isShelf (by decide +kernel) ⟨Nat.le_of_ble_eq_true rfl, Nat.le_of_ble_eq_true rfl⟩ ⟨Nat.le_of_ble_eq_true rfl, Nat.le_of_ble_eq_true rfl⟩ rfl hl.1 rfl (Nat.le_of_ble_eq_true rfl) dX11_row_1 hK hI (fun r G1 H1 L1 hp hI => ?_)
  obtain ⟨v, rfl, hG, ⟨h_1, rfl⟩ | ⟨h_1, rfl⟩⟩ := hp
  · rw [hG] at hI
    refine W.eq (g2 := F0 mI 4 ls [.int 1]) rfl ?_
    refine lv_if_eq (tgt := 13) hx hb dX11_row_4 (by decide) (fun c_2 => absurd c_2 (by decide)) (fun _ => ?_)
    refine lv_iload_n hx hb dX11_row_7 rfl (lv_at hl 2 rfl) ?_
    refine lv_bipush (v := 30) hx hb dX11_row_8 (by decide) ?_
    refine lv_icmp_le (tgt := 15) hx hb dX11_row_10 (by decide) (fun c_3 => ?_) (fun c_3 => ?_)
    · have c_3 := Int32.not_lt.mpr c_3
      refine lv_aload_n hx hb dX11_row_15 rfl (lv_at hl 0 rfl) ?_
      refine lv_aload_n hx hb dX11_row_16 rfl (lv_at hl 0 rfl) ?_
      refine x_get (index := 7) hx hb hts hown hK hI hM 0 (by decide) m_fl_X11_7 rfl dX11_row_17 rfl ?_
      refine lv_iload_n hx hb dX11_row_20 rfl (lv_at hl 1 rfl) ?_
      refine x_ld hx hb hK hI hM 0 (by decide) (sh_in h_1) dX11_row_21 ?_
      refine lv_bipush (v := 6) hx hb dX11_row_22 (by decide) ?_
      refine lv_bipush (v := 7) hx hb dX11_row_24 (by decide) ?_
      refine g_callV (own := RX11) (index := 76) (n := 3) hx hb hml hown hts (c_X11_fits l E b0 _ mo ma _ hM (A 0 (ix s)) 6 7 (hw.sh (sh_in h_1))) hM.1 rfl rfl m_ml_X11_76 m_im_X11_fits m_se_X11_X11_fits_X11_fits m_in_X11 m_co_X11_fits (by decide +kernel) ⟨Nat.le_of_ble_eq_true rfl, Nat.le_of_ble_eq_true rfl⟩ ⟨Nat.le_of_ble_eq_true rfl, Nat.le_of_ble_eq_true rfl⟩ rfl hl.1 rfl (Nat.le_of_ble_eq_true rfl) dX11_row_26 hK hI (fun r G1 H1 L1 hp hI => ?_)
      obtain ⟨v, rfl, hG, ⟨h_4, rfl⟩ | ⟨h_4, rfl⟩⟩ := hp
      · rw [hG] at hI
        refine W.eq (g2 := F0 mI 29 ls [.int 1]) rfl ?_
        refine lv_if_ne (tgt := 38) hx hb dX11_row_29 (by decide) (fun _ => ?_) (fun c_5 => absurd c_5 (by decide))
        refine lv_iload_n hx hb dX11_row_38 rfl (lv_at hl 2 rfl) ?_
        refine lv_if_lt (tgt := 51) hx hb dX11_row_39 (by decide) (fun c_6 => ?_) (fun c_6 => ?_)
        · refine lv_aload_n hx hb dX11_row_51 rfl (lv_at hl 0 rfl) ?_
          refine lv_iload_n hx hb dX11_row_52 rfl (lv_at hl 2 rfl) ?_
          refine lv_if_ge (tgt := 60) hx hb dX11_row_53 (by decide) (fun c_7 => by have c_7 := Int32.not_lt.mpr c_7; first | exact absurd c_6 c_7 | exact absurd c_7 c_6) (fun _ => ?_)
          refine lv_iconst (v := 2) hx hb dX11_row_56 (by decide) ?_
          refine lv_goto (tgt := 61) hx hb dX11_row_57 (by decide) ?_
          refine g_callV (own := RX11) (index := 56) (n := 1) hx hb hml hown hts (c_X11_refuse l E b0 _ mo ma _ hM 2 (vp_in_iff.mpr (by decide))) hM.1 rfl rfl m_ml_X11_56 m_im_X11_refuse m_se_X11_X11_refuse_X11_refuse m_in_X11 m_co_X11_refuse (by decide +kernel) ⟨Nat.le_of_ble_eq_true rfl, Nat.le_of_ble_eq_true rfl⟩ ⟨Nat.le_of_ble_eq_true rfl, Nat.le_of_ble_eq_true rfl⟩ rfl hl.1 rfl (Nat.le_of_ble_eq_true rfl) dX11_row_61 hK hI (fun r G1 H1 L1 hp hI => ?_)
          obtain ⟨v, rfl, ev, hM⟩ := hp
          subst ev
          refine W.eq (g2 := F0 mI 64 ls [.int (-10 - 2)]) rfl ?_
          have e9 : sp_row A s n = ((-10 - 2), (rfs A 2)) := by
            simp only [sp_row, rfi, rfj, h_1, c_3, h_4, c_6, reduceIte, Bool.false_eq_true, not_true_eq_false, not_false_eq_true]
          exact g_iret hx hb hr hlocks hI ⟨_, rfl, by rw [e9], by rw [e9]; exact hM⟩ dX11_row_64 (Nat.le_of_ble_eq_true rfl) (Nat.le_of_ble_eq_true rfl)
        · refine lv_aload_n hx hb dX11_row_42 rfl (lv_at hl 0 rfl) ?_
          refine x_get (index := 7) hx hb hts hown hK hI hM 0 (by decide) m_fl_X11_7 rfl dX11_row_43 rfl ?_
          refine lv_iload_n hx hb dX11_row_46 rfl (lv_at hl 1 rfl) ?_
          refine x_ld hx hb hK hI hM 0 (by decide) (sh_in h_1) dX11_row_47 ?_
          refine lv_if_ne (tgt := 65) hx hb dX11_row_48 (by decide) (fun c_8 => ?_) (fun c_8 => ?_)
          · have q_9 := eqb_f c_8
            refine lv_aload_n hx hb dX11_row_65 rfl (lv_at hl 0 rfl) ?_
            refine lv_aload_n hx hb dX11_row_66 rfl (lv_at hl 0 rfl) ?_
            refine x_get (index := 7) hx hb hts hown hK hI hM 0 (by decide) m_fl_X11_7 rfl dX11_row_67 rfl ?_
            refine lv_iload_n hx hb dX11_row_70 rfl (lv_at hl 1 rfl) ?_
            refine x_ld hx hb hK hI hM 0 (by decide) (sh_in h_1) dX11_row_71 ?_
            refine lv_iload_n hx hb dX11_row_72 rfl (lv_at hl 2 rfl) ?_
            refine g_callV (own := RX11) (index := 72) (n := 2) hx hb hml hown hts (c_X11_newRow l E b0 _ mo ma _ hM (A 0 (ix s)) n (hw.sh (sh_in h_1))) hM.1 rfl rfl m_ml_X11_72 m_im_X11_newRow m_se_X11_X11_newRow_X11_newRow m_in_X11 m_co_X11_newRow (by decide +kernel) ⟨Nat.le_of_ble_eq_true rfl, Nat.le_of_ble_eq_true rfl⟩ ⟨Nat.le_of_ble_eq_true rfl, Nat.le_of_ble_eq_true rfl⟩ rfl hl.1 rfl (Nat.le_of_ble_eq_true rfl) dX11_row_73 hK hI (fun r G1 H1 L1 hp hI => ?_)
            obtain ⟨rfl, hM⟩ := hp
            refine W.eq (g2 := F0 mI 76 ls []) rfl ?_
            refine lv_iload_n hx hb dX11_row_76 rfl (lv_at hl 2 rfl) ?_
            have e9 : sp_row A s n = (n, (nrw A (A 0 (ix s)) n)) := by
              simp only [sp_row, rfi, rfj, h_1, c_3, h_4, c_6, q_9, reduceIte, Bool.false_eq_true, not_true_eq_false, not_false_eq_true]
            exact g_iret hx hb hr hlocks hI ⟨_, rfl, by rw [e9], by rw [e9]; exact hM⟩ dX11_row_77 (Nat.le_of_ble_eq_true rfl) (Nat.le_of_ble_eq_true rfl)
          · have q_10 := eqb_t c_8
            refine lv_aload_n hx hb dX11_row_51 rfl (lv_at hl 0 rfl) ?_
            refine lv_iload_n hx hb dX11_row_52 rfl (lv_at hl 2 rfl) ?_
            refine lv_if_ge (tgt := 60) hx hb dX11_row_53 (by decide) (fun _ => ?_) (fun c_11 => by have c_11 := Int32.not_le.mp c_11; first | exact absurd c_6 c_11 | exact absurd c_11 c_6)
            refine lv_iconst (v := 1) hx hb dX11_row_60 (by decide) ?_
            refine g_callV (own := RX11) (index := 56) (n := 1) hx hb hml hown hts (c_X11_refuse l E b0 _ mo ma _ hM 1 (vp_in_iff.mpr (by decide))) hM.1 rfl rfl m_ml_X11_56 m_im_X11_refuse m_se_X11_X11_refuse_X11_refuse m_in_X11 m_co_X11_refuse (by decide +kernel) ⟨Nat.le_of_ble_eq_true rfl, Nat.le_of_ble_eq_true rfl⟩ ⟨Nat.le_of_ble_eq_true rfl, Nat.le_of_ble_eq_true rfl⟩ rfl hl.1 rfl (Nat.le_of_ble_eq_true rfl) dX11_row_61 hK hI (fun r G1 H1 L1 hp hI => ?_)
            obtain ⟨v, rfl, ev, hM⟩ := hp
            subst ev
            refine W.eq (g2 := F0 mI 64 ls [.int (-10 - 1)]) rfl ?_
            have e9 : sp_row A s n = ((-10 - 1), (rfs A 1)) := by
              simp only [sp_row, rfi, rfj, h_1, c_3, h_4, c_6, q_10, reduceIte, Bool.false_eq_true, not_true_eq_false, not_false_eq_true]
            exact g_iret hx hb hr hlocks hI ⟨_, rfl, by rw [e9], by rw [e9]; exact hM⟩ dX11_row_64 (Nat.le_of_ble_eq_true rfl) (Nat.le_of_ble_eq_true rfl)
      · rw [hG] at hI
        refine W.eq (g2 := F0 mI 29 ls [.int 0]) rfl ?_
        refine lv_if_ne (tgt := 38) hx hb dX11_row_29 (by decide) (fun c_12 => absurd c_12 (by decide)) (fun _ => ?_)
        refine lv_aload_n hx hb dX11_row_32 rfl (lv_at hl 0 rfl) ?_
        refine lv_iconst (v := 5) hx hb dX11_row_33 (by decide) ?_
        refine g_callV (own := RX11) (index := 56) (n := 1) hx hb hml hown hts (c_X11_refuse l E b0 _ mo ma _ hM 5 (vp_in_iff.mpr (by decide))) hM.1 rfl rfl m_ml_X11_56 m_im_X11_refuse m_se_X11_X11_refuse_X11_refuse m_in_X11 m_co_X11_refuse (by decide +kernel) ⟨Nat.le_of_ble_eq_true rfl, Nat.le_of_ble_eq_true rfl⟩ ⟨Nat.le_of_ble_eq_true rfl, Nat.le_of_ble_eq_true rfl⟩ rfl hl.1 rfl (Nat.le_of_ble_eq_true rfl) dX11_row_34 hK hI (fun r G1 H1 L1 hp hI => ?_)
        obtain ⟨v, rfl, ev, hM⟩ := hp
        subst ev
        refine W.eq (g2 := F0 mI 37 ls [.int (-10 - 5)]) rfl ?_
        have e9 : sp_row A s n = ((-10 - 5), (rfs A 5)) := by
          simp only [sp_row, rfi, rfj, h_1, c_3, h_4, reduceIte, Bool.false_eq_true, not_true_eq_false, not_false_eq_true]
        exact g_iret hx hb hr hlocks hI ⟨_, rfl, by rw [e9], by rw [e9]; exact hM⟩ dX11_row_37 (Nat.le_of_ble_eq_true rfl) (Nat.le_of_ble_eq_true rfl)
    · have c_3 := Int32.not_le.mp c_3
      refine lv_iconst (v := -1) hx hb dX11_row_13 (by decide) ?_
      have e9 : sp_row A s n = ((-1), A) := by
        simp only [sp_row, rfi, rfj, h_1, c_3, reduceIte, Bool.false_eq_true, not_true_eq_false, not_false_eq_true]
      exact g_iret hx hb hr hlocks hI ⟨_, rfl, by rw [e9], by rw [e9]; exact hM⟩ dX11_row_14 (Nat.le_of_ble_eq_true rfl) (Nat.le_of_ble_eq_true rfl)
  · rw [hG] at hI
    refine W.eq (g2 := F0 mI 4 ls [.int 0]) rfl ?_
    refine lv_if_eq (tgt := 13) hx hb dX11_row_4 (by decide) (fun _ => ?_) (fun c_13 => absurd c_13 (by decide))
    refine lv_iconst (v := -1) hx hb dX11_row_13 (by decide) ?_
    have e9 : sp_row A s n = ((-1), A) := by
      simp only [sp_row, rfi, rfj, h_1, reduceIte, Bool.false_eq_true, not_true_eq_false, not_false_eq_true]
    exact g_iret hx hb hr hlocks hI ⟨_, rfl, by rw [e9], by rw [e9]; exact hM⟩ dX11_row_14 (Nat.le_of_ble_eq_true rfl) (Nat.le_of_ble_eq_true rfl)
set_option maxHeartbeats 4000000 in
set_option maxRecDepth 100000 in
theorem c_X11_comb (l : Launch) (E : gE) (b0 : Nat) (G : gG) (mo : Nat) (ma : Nat → Nat) (A : gA) (hM : gMod E mo ma A G) (nn : Nat) (hw : wfb A nn) (s n k : Int32) : gM l yX11_comb cX11_comb 6 (some .int) 5 0 0 E b0 G [.ref mo, .int s, .int n, .int k] (pI (fun v9 G1 => v9 = (sp_comb A s n k).1 ∧ gMod E mo ma (sp_comb A s n k).2 G1)) := by
  refine gM.of (by decide +kernel) (Nat.le_of_ble_eq_true rfl) ?_
  intro pP eP sP mI bP meth cP ls hx hb hr hml hown hlocks hnm hts hK hI hl
  have hl : lv_has ls 6 [(0, .ref mo), (1, .int s), (2, .int n), (3, .int k)] := hl
  have hown : sP.vm.findClass RX11 = some mI.cls := hown
  refine lv_iload_n hx hb dX11_comb_0 rfl (lv_at hl 1 rfl) ?_
  refine g_callS (own := RX11) (index := 64) (n := 1) hx hb hml hown hts (c_X11_isShelf l E b0 _ s) m_ml_X11_64 m_st_X11_isShelf m_in_X11 m_co_X11_isShelf (by decide +kernel) ⟨Nat.le_of_ble_eq_true rfl, Nat.le_of_ble_eq_true rfl⟩ ⟨Nat.le_of_ble_eq_true rfl, Nat.le_of_ble_eq_true rfl⟩ rfl hl.1 rfl (Nat.le_of_ble_eq_true rfl) dX11_comb_1 hK hI (fun r G1 H1 L1 hp hI => ?_)
  obtain ⟨v, rfl, hG, ⟨h_1, rfl⟩ | ⟨h_1, rfl⟩⟩ := hp
  · rw [hG] at hI
    refine W.eq (g2 := F0 mI 4 ls [.int 1]) rfl ?_
    refine lv_if_eq (tgt := 19) hx hb dX11_comb_4 (by decide) (fun c_2 => absurd c_2 (by decide)) (fun _ => ?_)
    refine lv_iload_n hx hb dX11_comb_7 rfl (lv_at hl 2 rfl) ?_
    refine lv_bipush (v := 12) hx hb dX11_comb_8 (by decide) ?_
    refine lv_icmp_gt (tgt := 19) hx hb dX11_comb_10 (by decide) (fun c_3 => ?_) (fun c_3 => ?_)
    · refine lv_iconst (v := -1) hx hb dX11_comb_19 (by decide) ?_
      have e9 : sp_comb A s n k = ((-1), A) := by
        simp only [sp_comb, rfi, rfj, h_1, c_3, reduceIte, Bool.false_eq_true, not_true_eq_false, not_false_eq_true]
      exact g_iret hx hb hr hlocks hI ⟨_, rfl, by rw [e9], by rw [e9]; exact hM⟩ dX11_comb_20 (Nat.le_of_ble_eq_true rfl) (Nat.le_of_ble_eq_true rfl)
    · refine lv_iload_n hx hb dX11_comb_13 rfl (lv_at hl 3 rfl) ?_
      refine lv_bipush (v := 12) hx hb dX11_comb_14 (by decide) ?_
      refine lv_icmp_le (tgt := 21) hx hb dX11_comb_16 (by decide) (fun c_4 => ?_) (fun c_4 => ?_)
      · have c_4 := Int32.not_lt.mpr c_4
        refine lv_aload_n hx hb dX11_comb_21 rfl (lv_at hl 0 rfl) ?_
        refine lv_aload_n hx hb dX11_comb_22 rfl (lv_at hl 0 rfl) ?_
        refine x_get (index := 7) hx hb hts hown hK hI hM 0 (by decide) m_fl_X11_7 rfl dX11_comb_23 rfl ?_
        refine lv_iload_n hx hb dX11_comb_26 rfl (lv_at hl 1 rfl) ?_
        refine x_ld hx hb hK hI hM 0 (by decide) (sh_in h_1) dX11_comb_27 ?_
        refine lv_bipush (v := 6) hx hb dX11_comb_28 (by decide) ?_
        refine lv_bipush (v := 7) hx hb dX11_comb_30 (by decide) ?_
        refine g_callV (own := RX11) (index := 76) (n := 3) hx hb hml hown hts (c_X11_fits l E b0 _ mo ma _ hM (A 0 (ix s)) 6 7 (hw.sh (sh_in h_1))) hM.1 rfl rfl m_ml_X11_76 m_im_X11_fits m_se_X11_X11_fits_X11_fits m_in_X11 m_co_X11_fits (by decide +kernel) ⟨Nat.le_of_ble_eq_true rfl, Nat.le_of_ble_eq_true rfl⟩ ⟨Nat.le_of_ble_eq_true rfl, Nat.le_of_ble_eq_true rfl⟩ rfl hl.1 rfl (Nat.le_of_ble_eq_true rfl) dX11_comb_32 hK hI (fun r G1 H1 L1 hp hI => ?_)
        obtain ⟨v, rfl, hG, ⟨h_5, rfl⟩ | ⟨h_5, rfl⟩⟩ := hp
        · rw [hG] at hI
          refine W.eq (g2 := F0 mI 35 ls [.int 1]) rfl ?_
          refine lv_if_ne (tgt := 44) hx hb dX11_comb_35 (by decide) (fun _ => ?_) (fun c_6 => absurd c_6 (by decide))
          refine lv_iload_n hx hb dX11_comb_44 rfl (lv_at hl 2 rfl) ?_
          refine lv_if_lt (tgt := 61) hx hb dX11_comb_45 (by decide) (fun c_7 => ?_) (fun c_7 => ?_)
          · refine lv_aload_n hx hb dX11_comb_61 rfl (lv_at hl 0 rfl) ?_
            refine lv_iload_n hx hb dX11_comb_62 rfl (lv_at hl 2 rfl) ?_
            refine lv_if_lt (tgt := 70) hx hb dX11_comb_63 (by decide) (fun _ => ?_) (fun c_8 => by first | exact absurd c_7 c_8 | exact absurd c_8 c_7 | (simp_all; done))
            refine lv_iconst (v := 2) hx hb dX11_comb_70 (by decide) ?_
            refine lv_goto (tgt := 75) hx hb dX11_comb_71 (by decide) ?_
            refine g_callV (own := RX11) (index := 56) (n := 1) hx hb hml hown hts (c_X11_refuse l E b0 _ mo ma _ hM 2 (vp_in_iff.mpr (by decide))) hM.1 rfl rfl m_ml_X11_56 m_im_X11_refuse m_se_X11_X11_refuse_X11_refuse m_in_X11 m_co_X11_refuse (by decide +kernel) ⟨Nat.le_of_ble_eq_true rfl, Nat.le_of_ble_eq_true rfl⟩ ⟨Nat.le_of_ble_eq_true rfl, Nat.le_of_ble_eq_true rfl⟩ rfl hl.1 rfl (Nat.le_of_ble_eq_true rfl) dX11_comb_75 hK hI (fun r G1 H1 L1 hp hI => ?_)
            obtain ⟨v, rfl, ev, hM⟩ := hp
            subst ev
            refine W.eq (g2 := F0 mI 78 ls [.int (-10 - 2)]) rfl ?_
            have e9 : sp_comb A s n k = ((-10 - 2), (rfs A 2)) := by
              simp only [sp_comb, rfi, rfj, h_1, c_3, c_4, h_5, c_7, reduceIte, Bool.false_eq_true, not_true_eq_false, not_false_eq_true]
            exact g_iret hx hb hr hlocks hI ⟨_, rfl, by rw [e9], by rw [e9]; exact hM⟩ dX11_comb_78 (Nat.le_of_ble_eq_true rfl) (Nat.le_of_ble_eq_true rfl)
          · refine lv_iload_n hx hb dX11_comb_48 rfl (lv_at hl 3 rfl) ?_
            refine lv_if_lt (tgt := 61) hx hb dX11_comb_49 (by decide) (fun c_9 => ?_) (fun c_9 => ?_)
            · refine lv_aload_n hx hb dX11_comb_61 rfl (lv_at hl 0 rfl) ?_
              refine lv_iload_n hx hb dX11_comb_62 rfl (lv_at hl 2 rfl) ?_
              refine lv_if_lt (tgt := 70) hx hb dX11_comb_63 (by decide) (fun c_10 => by first | exact absurd c_7 c_10 | exact absurd c_10 c_7 | (simp_all; done)) (fun _ => ?_)
              refine lv_iload_n hx hb dX11_comb_66 rfl (lv_at hl 3 rfl) ?_
              refine lv_if_ge (tgt := 74) hx hb dX11_comb_67 (by decide) (fun c_11 => by have c_11 := Int32.not_lt.mpr c_11; first | exact absurd c_9 c_11 | exact absurd c_11 c_9) (fun _ => ?_)
              refine lv_iconst (v := 2) hx hb dX11_comb_70 (by decide) ?_
              refine lv_goto (tgt := 75) hx hb dX11_comb_71 (by decide) ?_
              refine g_callV (own := RX11) (index := 56) (n := 1) hx hb hml hown hts (c_X11_refuse l E b0 _ mo ma _ hM 2 (vp_in_iff.mpr (by decide))) hM.1 rfl rfl m_ml_X11_56 m_im_X11_refuse m_se_X11_X11_refuse_X11_refuse m_in_X11 m_co_X11_refuse (by decide +kernel) ⟨Nat.le_of_ble_eq_true rfl, Nat.le_of_ble_eq_true rfl⟩ ⟨Nat.le_of_ble_eq_true rfl, Nat.le_of_ble_eq_true rfl⟩ rfl hl.1 rfl (Nat.le_of_ble_eq_true rfl) dX11_comb_75 hK hI (fun r G1 H1 L1 hp hI => ?_)
              obtain ⟨v, rfl, ev, hM⟩ := hp
              subst ev
              refine W.eq (g2 := F0 mI 78 ls [.int (-10 - 2)]) rfl ?_
              have e9 : sp_comb A s n k = ((-10 - 2), (rfs A 2)) := by
                simp only [sp_comb, rfi, rfj, h_1, c_3, c_4, h_5, c_7, c_9, reduceIte, Bool.false_eq_true, not_true_eq_false, not_false_eq_true]
              exact g_iret hx hb hr hlocks hI ⟨_, rfl, by rw [e9], by rw [e9]; exact hM⟩ dX11_comb_78 (Nat.le_of_ble_eq_true rfl) (Nat.le_of_ble_eq_true rfl)
            · refine lv_aload_n hx hb dX11_comb_52 rfl (lv_at hl 0 rfl) ?_
              refine x_get (index := 7) hx hb hts hown hK hI hM 0 (by decide) m_fl_X11_7 rfl dX11_comb_53 rfl ?_
              refine lv_iload_n hx hb dX11_comb_56 rfl (lv_at hl 1 rfl) ?_
              refine x_ld hx hb hK hI hM 0 (by decide) (sh_in h_1) dX11_comb_57 ?_
              refine lv_if_ne (tgt := 79) hx hb dX11_comb_58 (by decide) (fun c_12 => ?_) (fun c_12 => ?_)
              · have q_13 := eqb_f c_12
                refine lv_aload_n hx hb dX11_comb_79 rfl (lv_at hl 0 rfl) ?_
                refine x_get (index := 7) hx hb hts hown hK hI hM 0 (by decide) m_fl_X11_7 rfl dX11_comb_80 rfl ?_
                refine lv_iload_n hx hb dX11_comb_83 rfl (lv_at hl 1 rfl) ?_
                refine x_ld hx hb hK hI hM 0 (by decide) (sh_in h_1) dX11_comb_84 ?_
                refine lv_istore (lv' := [(4, .int (A 0 (ix s))), (0, .ref mo), (1, .int s), (2, .int n), (3, .int k)]) hx hb dX11_comb_85 hl (by decide) rfl (fun ls hl => ?_)
                refine lv_aload_n hx hb dX11_comb_87 rfl (lv_at hl 1 rfl) ?_
                refine x_get (index := 28) hx hb hts hown hK hI hM 7 (by decide) m_fl_X11_28 rfl dX11_comb_88 rfl ?_
                refine lv_iload hx hb dX11_comb_91 (lv_at hl 0 rfl) ?_
                refine lv_iload_n hx hb dX11_comb_93 rfl (lv_at hl 3 rfl) ?_
                refine x_st hx hb hK hI hM 7 (by decide) (hw.sh (sh_in h_1)) dX11_comb_94 (fun G1 H1 L1 hM hI => ?_)
                refine lv_aload_n hx hb dX11_comb_95 rfl (lv_at hl 1 rfl) ?_
                refine x_get (index := 31) hx hb hts hown hK hI hM 8 (by decide) m_fl_X11_31 rfl dX11_comb_96 rfl ?_
                refine lv_iload hx hb dX11_comb_99 (lv_at hl 0 rfl) ?_
                refine lv_iload_n hx hb dX11_comb_101 rfl (lv_at hl 4 rfl) ?_
                refine x_st hx hb hK hI hM 8 (by decide) (hw.sh (sh_in h_1)) dX11_comb_102 (fun G1 H1 L1 hM hI => ?_)
                refine lv_iconst (v := 0) hx hb dX11_comb_103 (by decide) ?_
                refine lv_istore (lv' := [(5, .int 0), (4, .int (A 0 (ix s))), (0, .ref mo), (1, .int s), (2, .int n), (3, .int k)]) hx hb dX11_comb_104 hl (by decide) rfl (fun ls hl => ?_)
                have key : ∀ (j : Nat) (j5 : Nat) (G1 : gG) (H1 : Heap) (L1 : List Loc) (ls : Array Slot), j5 + j = 144 → gMod E mo ma (z2 (u2 (u2 A 7 (ix (A 0 (ix s))) n) 8 (ix (A 0 (ix s))) k) 9 (144 * ix (A 0 (ix s))) j5) G1 → gI E.1 b0 G sP.heap G1 H1 L1 → lv_has ls 6 [(5, .int (nI j5)), (4, .int (A 0 (ix s))), (0, .ref mo), (1, .int s), (2, .int n), (3, .int k)] → W pP l eP (rmL 5 0 0) sP mI [.ref mo, .int s, .int n, .int k].toArray bP meth cP H1 L1 0 0 (MQ bP (gQ E b0 G (pI (fun v9 G1 => v9 = (sp_comb A s n k).1 ∧ gMod E mo ma (sp_comb A s n k).2 G1))) [.ref mo, .int s, .int n, .int k].toArray sP 0 0 (fun q => b0 ≤ q)) (F0 mI 106 ls []) := by
                  intro j
                  induction j with
                  | zero =>
                    intro j5 G1 H1 L1 ls hk hM hI hl
                    have hlt : ¬ nI j5 < 144 := by rw [show j5 = 144 by omega]; decide
                    rw [show j5 = 144 by omega] at hM
                    refine lv_iload hx hb dX11_comb_106 (lv_at hl 0 rfl) ?_
                    refine lv_sipush (v := 144) hx hb dX11_comb_108 (by decide) ?_
                    refine lv_icmp_ge (tgt := 135) hx hb dX11_comb_111 (by decide) (fun _ => ?_) (fun c_14 => by have c_14 := Int32.not_le.mp c_14; first | exact absurd hlt c_14 | exact absurd c_14 hlt)
                    refine lv_iload_n hx hb dX11_comb_135 rfl (lv_at hl 4 rfl) ?_
                    have e9 : sp_comb A s n k = (n, (z2 (u2 (u2 A 7 (ix (A 0 (ix s))) n) 8 (ix (A 0 (ix s))) k) 9 (144 * ix (A 0 (ix s))) 144)) := by
                      simp only [sp_comb, rfi, rfj, h_1, c_3, c_4, h_5, c_7, c_9, q_13, reduceIte, Bool.false_eq_true, not_true_eq_false, not_false_eq_true]
                    exact g_iret hx hb hr hlocks hI ⟨_, rfl, by rw [e9], by rw [e9]; exact hM⟩ dX11_comb_136 (Nat.le_of_ble_eq_true rfl) (Nat.le_of_ble_eq_true rfl)
                  | succ j ih =>
                    intro j5 G1 H1 L1 ls hk hM hI hl
                    have hlt : nI j5 < 144 := nI_lt (a := j5) (b := 144) (by omega) (by decide)
                    refine lv_iload hx hb dX11_comb_106 (lv_at hl 0 rfl) ?_
                    refine lv_sipush (v := 144) hx hb dX11_comb_108 (by decide) ?_
                    refine lv_icmp_ge (tgt := 135) hx hb dX11_comb_111 (by decide) (fun c_15 => by have c_15 := Int32.not_lt.mpr c_15; first | exact absurd hlt c_15 | exact absurd c_15 hlt) (fun _ => ?_)
                    refine lv_aload_n hx hb dX11_comb_114 rfl (lv_at hl 2 rfl) ?_
                    refine x_get (index := 35) hx hb hts hown hK hI hM 9 (by decide) m_fl_X11_35 rfl dX11_comb_115 rfl ?_
                    refine lv_sipush (v := 144) hx hb dX11_comb_118 (by decide) ?_
                    refine lv_iload hx hb dX11_comb_121 (lv_at hl 1 rfl) ?_
                    refine lv_imul hx hb dX11_comb_123 ?_
                    refine lv_iload hx hb dX11_comb_124 (lv_at hl 0 rfl) ?_
                    refine lv_iadd hx hb dX11_comb_126 ?_
                    refine lv_iconst (v := 0) hx hb dX11_comb_127 (by decide) ?_
                    refine x_st hx hb hK hI hM 9 (by decide) (ix144 (hw.sh (sh_in h_1)) (show j5 < 144 by omega)).1 dX11_comb_128 (fun G1 H1 L1 hM hI => ?_)
                    refine lv_iinc (v := ((nI j5) + 1)) (lv' := [(5, .int ((nI j5) + 1)), (4, .int (A 0 (ix s))), (0, .ref mo), (1, .int s), (2, .int n), (3, .int k)]) hx hb dX11_comb_129 hl (k := 0) rfl rfl (by decide) rfl (fun ls hl => ?_)
                    refine lv_goto (tgt := 106) hx hb dX11_comb_132 (by decide) ?_
                    rw [(ix144 (hw.sh (sh_in h_1)) (show j5 < 144 by omega)).2, z2_s] at hM
                    exact ih (j5 + 1) _ _ _ ls (by omega) hM hI (by rw [nI_1] at hl; exact hl)
                exact key 144 0 _ _ _ ls rfl (by rw [z2_0]; exact hM) hI (by rw [nI_0]; exact hl)
              · have q_16 := eqb_t c_12
                refine lv_aload_n hx hb dX11_comb_61 rfl (lv_at hl 0 rfl) ?_
                refine lv_iload_n hx hb dX11_comb_62 rfl (lv_at hl 2 rfl) ?_
                refine lv_if_lt (tgt := 70) hx hb dX11_comb_63 (by decide) (fun c_17 => by first | exact absurd c_7 c_17 | exact absurd c_17 c_7 | (simp_all; done)) (fun _ => ?_)
                refine lv_iload_n hx hb dX11_comb_66 rfl (lv_at hl 3 rfl) ?_
                refine lv_if_ge (tgt := 74) hx hb dX11_comb_67 (by decide) (fun _ => ?_) (fun c_18 => by have c_18 := Int32.not_le.mp c_18; first | exact absurd c_9 c_18 | exact absurd c_18 c_9)
                refine lv_iconst (v := 1) hx hb dX11_comb_74 (by decide) ?_
                refine g_callV (own := RX11) (index := 56) (n := 1) hx hb hml hown hts (c_X11_refuse l E b0 _ mo ma _ hM 1 (vp_in_iff.mpr (by decide))) hM.1 rfl rfl m_ml_X11_56 m_im_X11_refuse m_se_X11_X11_refuse_X11_refuse m_in_X11 m_co_X11_refuse (by decide +kernel) ⟨Nat.le_of_ble_eq_true rfl, Nat.le_of_ble_eq_true rfl⟩ ⟨Nat.le_of_ble_eq_true rfl, Nat.le_of_ble_eq_true rfl⟩ rfl hl.1 rfl (Nat.le_of_ble_eq_true rfl) dX11_comb_75 hK hI (fun r G1 H1 L1 hp hI => ?_)
                obtain ⟨v, rfl, ev, hM⟩ := hp
                subst ev
                refine W.eq (g2 := F0 mI 78 ls [.int (-10 - 1)]) rfl ?_
                have e9 : sp_comb A s n k = ((-10 - 1), (rfs A 1)) := by
                  simp only [sp_comb, rfi, rfj, h_1, c_3, c_4, h_5, c_7, c_9, q_16, reduceIte, Bool.false_eq_true, not_true_eq_false, not_false_eq_true]
                exact g_iret hx hb hr hlocks hI ⟨_, rfl, by rw [e9], by rw [e9]; exact hM⟩ dX11_comb_78 (Nat.le_of_ble_eq_true rfl) (Nat.le_of_ble_eq_true rfl)
        · rw [hG] at hI
          refine W.eq (g2 := F0 mI 35 ls [.int 0]) rfl ?_
          refine lv_if_ne (tgt := 44) hx hb dX11_comb_35 (by decide) (fun c_19 => absurd c_19 (by decide)) (fun _ => ?_)
          refine lv_aload_n hx hb dX11_comb_38 rfl (lv_at hl 0 rfl) ?_
          refine lv_iconst (v := 5) hx hb dX11_comb_39 (by decide) ?_
          refine g_callV (own := RX11) (index := 56) (n := 1) hx hb hml hown hts (c_X11_refuse l E b0 _ mo ma _ hM 5 (vp_in_iff.mpr (by decide))) hM.1 rfl rfl m_ml_X11_56 m_im_X11_refuse m_se_X11_X11_refuse_X11_refuse m_in_X11 m_co_X11_refuse (by decide +kernel) ⟨Nat.le_of_ble_eq_true rfl, Nat.le_of_ble_eq_true rfl⟩ ⟨Nat.le_of_ble_eq_true rfl, Nat.le_of_ble_eq_true rfl⟩ rfl hl.1 rfl (Nat.le_of_ble_eq_true rfl) dX11_comb_40 hK hI (fun r G1 H1 L1 hp hI => ?_)
          obtain ⟨v, rfl, ev, hM⟩ := hp
          subst ev
          refine W.eq (g2 := F0 mI 43 ls [.int (-10 - 5)]) rfl ?_
          have e9 : sp_comb A s n k = ((-10 - 5), (rfs A 5)) := by
            simp only [sp_comb, rfi, rfj, h_1, c_3, c_4, h_5, reduceIte, Bool.false_eq_true, not_true_eq_false, not_false_eq_true]
          exact g_iret hx hb hr hlocks hI ⟨_, rfl, by rw [e9], by rw [e9]; exact hM⟩ dX11_comb_43 (Nat.le_of_ble_eq_true rfl) (Nat.le_of_ble_eq_true rfl)
      · have c_4 := Int32.not_le.mp c_4
        refine lv_iconst (v := -1) hx hb dX11_comb_19 (by decide) ?_
        have e9 : sp_comb A s n k = ((-1), A) := by
          simp only [sp_comb, rfi, rfj, h_1, c_3, c_4, reduceIte, Bool.false_eq_true, not_true_eq_false, not_false_eq_true]
        exact g_iret hx hb hr hlocks hI ⟨_, rfl, by rw [e9], by rw [e9]; exact hM⟩ dX11_comb_20 (Nat.le_of_ble_eq_true rfl) (Nat.le_of_ble_eq_true rfl)
  · rw [hG] at hI
    refine W.eq (g2 := F0 mI 4 ls [.int 0]) rfl ?_
    refine lv_if_eq (tgt := 19) hx hb dX11_comb_4 (by decide) (fun _ => ?_) (fun c_20 => absurd c_20 (by decide))
    refine lv_iconst (v := -1) hx hb dX11_comb_19 (by decide) ?_
    have e9 : sp_comb A s n k = ((-1), A) := by
      simp only [sp_comb, rfi, rfj, h_1, reduceIte, Bool.false_eq_true, not_true_eq_false, not_false_eq_true]
    exact g_iret hx hb hr hlocks hI ⟨_, rfl, by rw [e9], by rw [e9]; exact hM⟩ dX11_comb_20 (Nat.le_of_ble_eq_true rfl) (Nat.le_of_ble_eq_true rfl)
