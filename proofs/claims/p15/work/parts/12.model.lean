set_option maxHeartbeats 4000000 in
set_option maxRecDepth 100000 in
theorem c_X11_tended (l : Launch) (E : gE) (b0 : Nat) (G : gG) (mo : Nat) (ma : Nat → Nat) (A : gA) (hM : gMod E mo ma A G) (h n : Int32) (hr0 : rowok A h) : gM l yX11_tended cX11_tended 7 (some .int) 0 0 0 E b0 G [.ref mo, .int h, .int n] (pI (fun v9 G1 => v9 = (sp_tended A h n).1 ∧ gMod E mo ma (sp_tended A h n).2 G1)) := by
  refine gM.of (by decide +kernel) (Nat.le_of_ble_eq_true rfl) ?_
  intro pP eP sP mI bP meth cP ls hx hb hr hml hown hlocks hnm hts hK hI hl
  have hl : lv_has ls 7 [(0, .ref mo), (1, .int h), (2, .int n)] := hl
  have hown : sP.vm.findClass RX11 = some mI.cls := hown
  refine lv_aload_n hx hb dX11_tended_0 rfl (lv_at hl 0 rfl) ?_
  refine x_get (index := 41) hx hb hts hown hK hI hM 11 (by decide) m_fl_X11_41 rfl dX11_tended_1 rfl ?_
  refine lv_iload_n hx hb dX11_tended_4 rfl (lv_at hl 1 rfl) ?_
  refine x_ld hx hb hK hI hM 11 (by decide) hr0.1 dX11_tended_5 ?_
  refine lv_istore_n (lv' := [(3, .int (A 11 (ix h))), (0, .ref mo), (1, .int h), (2, .int n)]) hx hb dX11_tended_6 rfl hl (by decide) rfl (fun ls hl => ?_)
  refine lv_aload_n hx hb dX11_tended_7 rfl (lv_at hl 1 rfl) ?_
  refine x_get (index := 13) hx hb hts hown hK hI hM 2 (by decide) m_fl_X11_13 rfl dX11_tended_8 rfl ?_
  refine lv_iload_n hx hb dX11_tended_11 rfl (lv_at hl 0 rfl) ?_
  refine x_ld hx hb hK hI hM 2 (by decide) hr0.2.1 dX11_tended_12 ?_
  refine lv_iconst (v := 3) hx hb dX11_tended_13 (by decide) ?_
  refine lv_icmp_ne (tgt := 34) hx hb dX11_tended_14 (by decide) (fun c_1 => ?_) (fun c_1 => ?_)
  · have q_2 := eqb_f c_1
    refine lv_iconst (v := 0) hx hb dX11_tended_34 (by decide) ?_
    refine lv_istore (lv' := [(4, .int 0), (3, .int (A 11 (ix h))), (0, .ref mo), (1, .int h), (2, .int n)]) hx hb dX11_tended_35 hl (by decide) rfl (fun ls hl => ?_)
    refine lv_iconst (v := 0) hx hb dX11_tended_37 (by decide) ?_
    refine lv_istore (lv' := [(5, .int 0), (4, .int 0), (3, .int (A 11 (ix h))), (0, .ref mo), (1, .int h), (2, .int n)]) hx hb dX11_tended_38 hl (by decide) rfl (fun ls hl => ?_)
    have key : ∀ (j : Nat) (i : Nat) (mny : Int32) (B : gA) (G1 : gG) (H1 : Heap) (L1 : List Loc) (ls : Array Slot), i + j = ix (A 5 (ix h)) → tdl A h n i = (mny, B) → gMod E mo ma B G1 → gI E.1 b0 G sP.heap G1 H1 L1 → lv_has ls 7 [(5, .int (nI i)), (4, .int mny), (3, .int (A 11 (ix h))), (0, .ref mo), (1, .int h), (2, .int n)] → W pP l eP (rmL 0 0 0) sP mI [.ref mo, .int h, .int n].toArray bP meth cP H1 L1 0 0 (MQ bP (gQ E b0 G (pI (fun v9 G1 => v9 = (sp_tended A h n).1 ∧ gMod E mo ma (sp_tended A h n).2 G1))) [.ref mo, .int h, .int n].toArray sP 0 0 (fun q => b0 ≤ q)) (F0 mI 40 ls []) := by
      intro j
      induction j with
      | zero =>
        intro i mny B G1 H1 L1 ls hk hT hM hI hl
        have h5 : B 5 = A 5 := tdl_o hT 5 (by decide)
        have h6 : B 6 = A 6 := tdl_o hT 6 (by decide)
        have h30 := hr0.2.2.2.1
        have hlt : ¬ nI i < B 5 (ix h) := by rw [h5, hr0.2.2.2.2 i (by omega)]; omega
        refine lv_iload hx hb dX11_tended_40 (lv_at hl 0 rfl) ?_
        refine lv_aload_n hx hb dX11_tended_42 rfl (lv_at hl 3 rfl) ?_
        refine x_get (index := 22) hx hb hts hown hK hI hM 5 (by decide) m_fl_X11_22 rfl dX11_tended_43 rfl ?_
        refine lv_iload_n hx hb dX11_tended_46 rfl (lv_at hl 4 rfl) ?_
        refine x_ld hx hb hK hI hM 5 (by decide) hr0.1 dX11_tended_47 ?_
        refine lv_icmp_ge (tgt := 106) hx hb dX11_tended_48 (by decide) (fun _ => ?_) (fun c_3 => by have c_3 := Int32.not_le.mp c_3; first | exact absurd hlt c_3 | exact absurd c_3 hlt)
        refine lv_iload hx hb dX11_tended_106 (lv_at hl 1 rfl) ?_
        refine lv_aload_n hx hb dX11_tended_108 rfl (lv_at hl 3 rfl) ?_
        refine x_get (index := 16) hx hb hts hown hK hI hM 3 (by decide) m_fl_X11_16 rfl dX11_tended_109 rfl ?_
        refine lv_iload_n hx hb dX11_tended_112 rfl (lv_at hl 2 rfl) ?_
        refine x_ld hx hb hK hI hM 3 (by decide) hr0.2.1 dX11_tended_113 ?_
        refine lv_iadd hx hb dX11_tended_114 ?_
        have e9 : sp_tended A h n = ((mny + (B 3 (ix (A 11 (ix h))))), B) := by simp only [sp_tended, q_2, reduceIte, Bool.false_eq_true, not_true_eq_false, not_false_eq_true, show ix (A 5 (ix h)) = i by omega, hT]
        exact g_iret hx hb hr hlocks hI ⟨_, rfl, by rw [e9], by rw [e9]; exact hM⟩ dX11_tended_115 (Nat.le_of_ble_eq_true rfl) (Nat.le_of_ble_eq_true rfl)
      | succ j ih =>
        intro i mny B G1 H1 L1 ls hk hT hM hI hl
        have h5 : B 5 = A 5 := tdl_o hT 5 (by decide)
        have h6 : B 6 = A 6 := tdl_o hT 6 (by decide)
        have h30 := hr0.2.2.2.1
        have hlt : nI i < B 5 (ix h) := by rw [h5, hr0.2.2.2.2 i (by omega)]; omega
        refine lv_iload hx hb dX11_tended_40 (lv_at hl 0 rfl) ?_
        refine lv_aload_n hx hb dX11_tended_42 rfl (lv_at hl 3 rfl) ?_
        refine x_get (index := 22) hx hb hts hown hK hI hM 5 (by decide) m_fl_X11_22 rfl dX11_tended_43 rfl ?_
        refine lv_iload_n hx hb dX11_tended_46 rfl (lv_at hl 4 rfl) ?_
        refine x_ld hx hb hK hI hM 5 (by decide) hr0.1 dX11_tended_47 ?_
        refine lv_icmp_ge (tgt := 106) hx hb dX11_tended_48 (by decide) (fun c_4 => by have c_4 := Int32.not_lt.mpr c_4; first | exact absurd hlt c_4 | exact absurd c_4 hlt) (fun _ => ?_)
        refine lv_aload_n hx hb dX11_tended_51 rfl (lv_at hl 3 rfl) ?_
        refine x_get (index := 25) hx hb hts hown hK hI hM 6 (by decide) m_fl_X11_25 rfl dX11_tended_52 rfl ?_
        refine lv_bipush (v := 30) hx hb dX11_tended_55 (by decide) ?_
        refine lv_iload_n hx hb dX11_tended_57 rfl (lv_at hl 4 rfl) ?_
        refine lv_imul hx hb dX11_tended_58 ?_
        refine lv_iload hx hb dX11_tended_59 (lv_at hl 0 rfl) ?_
        refine lv_iadd hx hb dX11_tended_61 ?_
        refine x_ld hx hb hK hI hM 6 (by decide) (ix30 hr0.1 (show i < 30 by omega)).1 dX11_tended_62 ?_
        refine lv_istore (lv' := [(6, .int (B 6 (ix ((30 * h) + (nI i))))), (5, .int (nI i)), (4, .int mny), (3, .int (A 11 (ix h))), (0, .ref mo), (1, .int h), (2, .int n)]) hx hb dX11_tended_63 hl (by decide) rfl (fun ls hl => ?_)
        refine lv_aload_n hx hb dX11_tended_65 rfl (lv_at hl 4 rfl) ?_
        refine x_get (index := 16) hx hb hts hown hK hI hM 3 (by decide) m_fl_X11_16 rfl dX11_tended_66 rfl ?_
        refine lv_iload hx hb dX11_tended_69 (lv_at hl 0 rfl) ?_
        refine lv_dup2_11 hx hb dX11_tended_71 rfl rfl ?_
        refine x_ld hx hb hK hI hM 3 (by decide) (by rw [h6]; exact hr0.2.2.1 i (by omega)) dX11_tended_72 ?_
        refine lv_iload hx hb dX11_tended_73 (lv_at hl 0 rfl) ?_
        refine lv_if_ne (tgt := 82) hx hb dX11_tended_75 (by decide) (fun c_5 => ?_) (fun c_5 => ?_)
        · have q_6 := eqb_f c_5
          refine lv_iload_n hx hb dX11_tended_82 rfl (lv_at hl 6 rfl) ?_
          refine lv_iadd hx hb dX11_tended_83 ?_
          refine x_st hx hb hK hI hM 3 (by decide) (by rw [h6]; exact hr0.2.2.1 i (by omega)) dX11_tended_84 (fun G1 H1 L1 hM hI => ?_)
          refine lv_iload hx hb dX11_tended_85 (lv_at hl 2 rfl) ?_
          refine lv_iload hx hb dX11_tended_87 (lv_at hl 0 rfl) ?_
          refine lv_if_ne (tgt := 96) hx hb dX11_tended_89 (by decide) (fun _ => ?_) (fun c_7 => by first | exact absurd c_5 c_7 | exact absurd c_7 c_5 | (simp_all; done))
          refine lv_iconst (v := 1) hx hb dX11_tended_96 (by decide) ?_
          refine lv_iadd hx hb dX11_tended_97 ?_
          refine lv_istore (lv' := [(4, .int (mny + 1)), (6, .int (B 6 (ix ((30 * h) + (nI i))))), (5, .int (nI i)), (3, .int (A 11 (ix h))), (0, .ref mo), (1, .int h), (2, .int n)]) hx hb dX11_tended_98 hl (by decide) rfl (fun ls hl => ?_)
          refine lv_iinc (v := ((nI i) + 1)) (lv' := [(5, .int ((nI i) + 1)), (4, .int (mny + 1)), (6, .int (B 6 (ix ((30 * h) + (nI i))))), (3, .int (A 11 (ix h))), (0, .ref mo), (1, .int h), (2, .int n)]) hx hb dX11_tended_100 hl (k := 2) rfl rfl (by decide) rfl (fun ls hl => ?_)
          refine lv_goto (tgt := 40) hx hb dX11_tended_103 (by decide) ?_
          have e9 : tdl A h n (i + 1) = ((mny + 1), (u2 B 3 (ix (B 6 (ix ((30 * h) + (nI i))))) ((B 3 (ix (B 6 (ix ((30 * h) + (nI i)))))) + n))) := by simp only [tdl, hT, ← h6, q_2, q_6, reduceIte, Bool.false_eq_true, not_true_eq_false, not_false_eq_true]
          rw [nI_1] at hl
          exact ih (i + 1) _ _ _ _ _ ls (by omega) e9 hM hI (lv_sub hl [0, 1, 3, 4, 5, 6] rfl)
        · have q_8 := eqb_t c_5
          refine lv_iconst (v := 0) hx hb dX11_tended_78 (by decide) ?_
          refine lv_goto (tgt := 83) hx hb dX11_tended_79 (by decide) ?_
          refine lv_iadd hx hb dX11_tended_83 ?_
          refine x_st hx hb hK hI hM 3 (by decide) (by rw [h6]; exact hr0.2.2.1 i (by omega)) dX11_tended_84 (fun G1 H1 L1 hM hI => ?_)
          refine lv_iload hx hb dX11_tended_85 (lv_at hl 2 rfl) ?_
          refine lv_iload hx hb dX11_tended_87 (lv_at hl 0 rfl) ?_
          refine lv_if_ne (tgt := 96) hx hb dX11_tended_89 (by decide) (fun c_9 => by first | exact absurd c_5 c_9 | exact absurd c_9 c_5 | (simp_all; done)) (fun _ => ?_)
          refine lv_iconst (v := 0) hx hb dX11_tended_92 (by decide) ?_
          refine lv_goto (tgt := 97) hx hb dX11_tended_93 (by decide) ?_
          refine lv_iadd hx hb dX11_tended_97 ?_
          refine lv_istore (lv' := [(4, .int (mny + 0)), (6, .int (B 6 (ix ((30 * h) + (nI i))))), (5, .int (nI i)), (3, .int (A 11 (ix h))), (0, .ref mo), (1, .int h), (2, .int n)]) hx hb dX11_tended_98 hl (by decide) rfl (fun ls hl => ?_)
          refine lv_iinc (v := ((nI i) + 1)) (lv' := [(5, .int ((nI i) + 1)), (4, .int (mny + 0)), (6, .int (B 6 (ix ((30 * h) + (nI i))))), (3, .int (A 11 (ix h))), (0, .ref mo), (1, .int h), (2, .int n)]) hx hb dX11_tended_100 hl (k := 2) rfl rfl (by decide) rfl (fun ls hl => ?_)
          refine lv_goto (tgt := 40) hx hb dX11_tended_103 (by decide) ?_
          have e9 : tdl A h n (i + 1) = ((mny + 0), (u2 B 3 (ix (B 6 (ix ((30 * h) + (nI i))))) ((B 3 (ix (B 6 (ix ((30 * h) + (nI i)))))) + 0))) := by simp only [tdl, hT, ← h6, q_2, q_8, reduceIte, Bool.false_eq_true, not_true_eq_false, not_false_eq_true]
          rw [nI_1] at hl
          exact ih (i + 1) _ _ _ _ _ ls (by omega) e9 hM hI (lv_sub hl [0, 1, 3, 4, 5, 6] rfl)
    exact key (ix (A 5 (ix h))) 0 0 A _ _ _ ls (by omega) rfl hM hI (by rw [nI_0]; exact hl)
  · have q_10 := eqb_t c_1
    refine lv_aload_n hx hb dX11_tended_17 rfl (lv_at hl 1 rfl) ?_
    refine x_get (index := 16) hx hb hts hown hK hI hM 3 (by decide) m_fl_X11_16 rfl dX11_tended_18 rfl ?_
    refine lv_iload_n hx hb dX11_tended_21 rfl (lv_at hl 0 rfl) ?_
    refine lv_dup2_11 hx hb dX11_tended_22 rfl rfl ?_
    refine x_ld hx hb hK hI hM 3 (by decide) hr0.2.1 dX11_tended_23 ?_
    refine lv_iload_n hx hb dX11_tended_24 rfl (lv_at hl 3 rfl) ?_
    refine lv_iadd hx hb dX11_tended_25 ?_
    refine x_st hx hb hK hI hM 3 (by decide) hr0.2.1 dX11_tended_26 (fun G1 H1 L1 hM hI => ?_)
    refine lv_aload_n hx hb dX11_tended_27 rfl (lv_at hl 1 rfl) ?_
    refine x_get (index := 16) hx hb hts hown hK hI hM 3 (by decide) m_fl_X11_16 rfl dX11_tended_28 rfl ?_
    refine lv_iload_n hx hb dX11_tended_31 rfl (lv_at hl 0 rfl) ?_
    refine x_ld hx hb hK hI hM 3 (by decide) hr0.2.1 dX11_tended_32 ?_
    have e9 : sp_tended A h n = (((u2 A 3 (ix (A 11 (ix h))) ((A 3 (ix (A 11 (ix h)))) + n)) 3 (ix (A 11 (ix h)))), (u2 A 3 (ix (A 11 (ix h))) ((A 3 (ix (A 11 (ix h)))) + n))) := by simp only [sp_tended, q_10, reduceIte, Bool.false_eq_true, not_true_eq_false, not_false_eq_true]
    exact g_iret hx hb hr hlocks hI ⟨_, rfl, by rw [e9], by rw [e9]; exact hM⟩ dX11_tended_33 (Nat.le_of_ble_eq_true rfl) (Nat.le_of_ble_eq_true rfl)
set_option maxHeartbeats 4000000 in
set_option maxRecDepth 100000 in
theorem c_X11_tend (l : Launch) (E : gE) (b0 : Nat) (G : gG) (mo : Nat) (ma : Nat → Nat) (A : gA) (hM : gMod E mo ma A G) (nn : Nat) (hw : wfb A nn) (s n b : Int32) : gM l yX11_tend cX11_tend 7 (some .long) 5 0 0 E b0 G [.ref mo, .int s, .int n, .int b] (pL (fun v9 G1 => v9 = (sp_tend A s n b).1 ∧ gMod E mo ma (sp_tend A s n b).2 G1)) := by
  refine gM.of (by decide +kernel) (Nat.le_of_ble_eq_true rfl) ?_
  intro pP eP sP mI bP meth cP ls hx hb hr hml hown hlocks hnm hts hK hI hl
  have hl : lv_has ls 7 [(0, .ref mo), (1, .int s), (2, .int n), (3, .int b)] := hl
  have hown : sP.vm.findClass RX11 = some mI.cls := hown
  refine lv_iload_n hx hb dX11_tend_0 rfl (lv_at hl 1 rfl) ?_
  refine g_callS (own := RX11) (index := 64) (n := 1) hx hb hml hown hts (c_X11_isShelf l E b0 _ s) m_ml_X11_64 m_st_X11_isShelf m_in_X11 m_co_X11_isShelf (by decide +kernel) ⟨Nat.le_of_ble_eq_true rfl, Nat.le_of_ble_eq_true rfl⟩ ⟨Nat.le_of_ble_eq_true rfl, Nat.le_of_ble_eq_true rfl⟩ rfl hl.1 rfl (Nat.le_of_ble_eq_true rfl) dX11_tend_1 hK hI (fun r G1 H1 L1 hp hI => ?_)
  obtain ⟨v, rfl, hG, ⟨h_1, rfl⟩ | ⟨h_1, rfl⟩⟩ := hp
  · rw [hG] at hI
    refine W.eq (g2 := F0 mI 4 ls [.int 1]) rfl ?_
    refine lv_if_ne (tgt := 11) hx hb dX11_tend_4 (by decide) (fun _ => ?_) (fun c_2 => absurd c_2 (by decide))
    refine lv_aload_n hx hb dX11_tend_11 rfl (lv_at hl 0 rfl) ?_
    refine lv_iload_n hx hb dX11_tend_12 rfl (lv_at hl 1 rfl) ?_
    refine g_callV (own := RX11) (index := 79) (n := 1) hx hb hml hown hts (c_X11_wrongHive l E b0 _ mo ma _ hM nn hw s h_1) hM.1 rfl rfl m_ml_X11_79 m_im_X11_wrongHive m_se_X11_X11_wrongHive_X11_wrongHive m_in_X11 m_co_X11_wrongHive (by decide +kernel) ⟨Nat.le_of_ble_eq_true rfl, Nat.le_of_ble_eq_true rfl⟩ ⟨Nat.le_of_ble_eq_true rfl, Nat.le_of_ble_eq_true rfl⟩ rfl hl.1 rfl (Nat.le_of_ble_eq_true rfl) dX11_tend_13 hK hI (fun r G1 H1 L1 hp hI => ?_)
    obtain ⟨v, rfl, ev, hG⟩ := hp
    subst ev
    rw [hG] at hI
    refine W.eq (g2 := F0 mI 16 ls [.int (wHv A s)]) rfl ?_
    refine lv_istore (lv' := [(4, .int (wHv A s)), (0, .ref mo), (1, .int s), (2, .int n), (3, .int b)]) hx hb dX11_tend_16 hl (by decide) rfl (fun ls hl => ?_)
    refine lv_iload hx hb dX11_tend_18 (lv_at hl 0 rfl) ?_
    refine lv_if_eq (tgt := 30) hx hb dX11_tend_20 (by decide) (fun c_3 => ?_) (fun c_3 => ?_)
    · have q_4 := eqb_t c_3
      refine lv_aload_n hx hb dX11_tend_30 rfl (lv_at hl 1 rfl) ?_
      refine x_get (index := 7) hx hb hts hown hK hI hM 0 (by decide) m_fl_X11_7 rfl dX11_tend_31 rfl ?_
      refine lv_iload_n hx hb dX11_tend_34 rfl (lv_at hl 2 rfl) ?_
      refine x_ld hx hb hK hI hM 0 (by decide) (sh_in h_1) dX11_tend_35 ?_
      refine lv_istore (lv' := [(5, .int (A 0 (ix s))), (4, .int (wHv A s)), (0, .ref mo), (1, .int s), (2, .int n), (3, .int b)]) hx hb dX11_tend_36 hl (by decide) rfl (fun ls hl => ?_)
      refine lv_aload_n hx hb dX11_tend_38 rfl (lv_at hl 2 rfl) ?_
      refine x_get (index := 41) hx hb hts hown hK hI hM 11 (by decide) m_fl_X11_41 rfl dX11_tend_39 rfl ?_
      refine lv_iload hx hb dX11_tend_42 (lv_at hl 0 rfl) ?_
      refine x_ld hx hb hK hI hM 11 (by decide) (hw.sh (sh_in h_1)) dX11_tend_44 ?_
      refine lv_if_eq (tgt := 74) hx hb dX11_tend_45 (by decide) (fun c_5 => ?_) (fun c_5 => ?_)
      · have q_6 := eqb_t c_5
        refine lv_aload_n hx hb dX11_tend_74 rfl (lv_at hl 2 rfl) ?_
        refine lv_iconst (v := 1) hx hb dX11_tend_75 (by decide) ?_
        refine g_callV (own := RX11) (index := 90) (n := 1) hx hb hml hown hts (c_X11_refuseLong l E b0 _ mo ma _ hM 1 (vp_in_iff.mpr (by decide))) hM.1 rfl rfl m_ml_X11_90 m_im_X11_refuseLong m_se_X11_X11_refuseLong_X11_refuseLong m_in_X11 m_co_X11_refuseLong (by decide +kernel) ⟨Nat.le_of_ble_eq_true rfl, Nat.le_of_ble_eq_true rfl⟩ ⟨Nat.le_of_ble_eq_true rfl, Nat.le_of_ble_eq_true rfl⟩ rfl hl.1 rfl (Nat.le_of_ble_eq_true rfl) dX11_tend_76 hK hI (fun r G1 H1 L1 hp hI => ?_)
        obtain ⟨v, rfl, ev, hM⟩ := hp
        subst ev
        refine W.eq (g2 := F0 mI 79 ls [.long (-9223372036854775708 + ((-10 - 1) : Int32).toInt64)]) rfl ?_
        have e9 : sp_tend A s n b = ((-9223372036854775708 + ((-10 - 1) : Int32).toInt64), (rfs A 1)) := by
          simp only [sp_tend, rfi, rfj, h_1, q_4, q_6, reduceIte, Bool.false_eq_true, not_true_eq_false, not_false_eq_true]
        exact g_lret hx hb hr hlocks hI ⟨_, rfl, by rw [e9], by rw [e9]; exact hM⟩ dX11_tend_79 (Nat.le_of_ble_eq_true rfl) (Nat.le_of_ble_eq_true rfl)
      · have q_7 := eqb_f c_5
        refine lv_aload_n hx hb dX11_tend_48 rfl (lv_at hl 2 rfl) ?_
        refine x_get (index := 13) hx hb hts hown hK hI hM 2 (by decide) m_fl_X11_13 rfl dX11_tend_49 rfl ?_
        refine lv_aload_n hx hb dX11_tend_52 rfl (lv_at hl 2 rfl) ?_
        refine x_get (index := 41) hx hb hts hown hK hI hM 11 (by decide) m_fl_X11_41 rfl dX11_tend_53 rfl ?_
        refine lv_iload hx hb dX11_tend_56 (lv_at hl 0 rfl) ?_
        refine x_ld hx hb hK hI hM 11 (by decide) (hw.sh (sh_in h_1)) dX11_tend_58 ?_
        refine x_ld hx hb hK hI hM 2 (by decide) (hw.pt (sh_in h_1) 11 (by decide)) dX11_tend_59 ?_
        refine lv_iconst (v := 4) hx hb dX11_tend_60 (by decide) ?_
        refine lv_icmp_ne (tgt := 80) hx hb dX11_tend_61 (by decide) (fun c_8 => ?_) (fun c_8 => ?_)
        · have q_9 := eqb_f c_8
          refine lv_aload_n hx hb dX11_tend_80 rfl (lv_at hl 2 rfl) ?_
          refine lv_iload hx hb dX11_tend_81 (lv_at hl 0 rfl) ?_
          refine lv_iload_n hx hb dX11_tend_83 rfl (lv_at hl 4 rfl) ?_
          refine g_callV (own := RX11) (index := 94) (n := 2) hx hb hml hown hts (c_X11_tended l E b0 _ mo ma _ hM (A 0 (ix s)) n (hw.rowok (sh_in h_1))) hM.1 rfl rfl m_ml_X11_94 m_im_X11_tended m_se_X11_X11_tended_X11_tended m_in_X11 m_co_X11_tended (by decide +kernel) ⟨Nat.le_of_ble_eq_true rfl, Nat.le_of_ble_eq_true rfl⟩ ⟨Nat.le_of_ble_eq_true rfl, Nat.le_of_ble_eq_true rfl⟩ rfl hl.1 rfl (Nat.le_of_ble_eq_true rfl) dX11_tend_84 hK hI (fun r G1 H1 L1 hp hI => ?_)
          obtain ⟨v, rfl, ev, hM⟩ := hp
          subst ev
          refine W.eq (g2 := F0 mI 87 ls [.int ((sp_tended A (A 0 (ix s)) n).1)]) rfl ?_
          refine lv_istore (lv' := [(6, .int ((sp_tended A (A 0 (ix s)) n).1)), (5, .int (A 0 (ix s))), (4, .int (wHv A s)), (0, .ref mo), (1, .int s), (2, .int n), (3, .int b)]) hx hb dX11_tend_87 hl (by decide) rfl (fun ls hl => ?_)
          refine lv_iload_n hx hb dX11_tend_89 rfl (lv_at hl 6 rfl) ?_
          refine lv_if_eq (tgt := 105) hx hb dX11_tend_90 (by decide) (fun c_10 => ?_) (fun c_10 => ?_)
          · have q_11 := eqb_t c_10
            refine lv_iload hx hb dX11_tend_105 (lv_at hl 0 rfl) ?_
            refine lv_i2l hx hb dX11_tend_107 rfl ?_
            have e9 : sp_tend A s n b = ((((sp_tended A (A 0 (ix s)) n).1 : Int32).toInt64), (sp_tended A (A 0 (ix s)) n).2) := by
              simp only [sp_tend, rfi, rfj, h_1, q_4, q_7, q_9, q_11, reduceIte, Bool.false_eq_true, not_true_eq_false, not_false_eq_true]
            exact g_lret hx hb hr hlocks hI ⟨_, rfl, by rw [e9], by rw [e9]; exact hM⟩ dX11_tend_108 (Nat.le_of_ble_eq_true rfl) (Nat.le_of_ble_eq_true rfl)
          · have q_12 := eqb_f c_10
            refine lv_aload_n hx hb dX11_tend_93 rfl (lv_at hl 3 rfl) ?_
            refine lv_iload hx hb dX11_tend_94 (lv_at hl 1 rfl) ?_
            refine lv_iload hx hb dX11_tend_96 (lv_at hl 0 rfl) ?_
            refine g_callV (own := RX11) (index := 94) (n := 2) hx hb hml hown hts (c_X11_tended l E b0 _ mo ma _ hM (A 0 (ix s)) (sp_tended A (A 0 (ix s)) n).1 ((hw.rowok (sh_in h_1)).of3 tended_o)) hM.1 rfl rfl m_ml_X11_94 m_im_X11_tended m_se_X11_X11_tended_X11_tended m_in_X11 m_co_X11_tended (by decide +kernel) ⟨Nat.le_of_ble_eq_true rfl, Nat.le_of_ble_eq_true rfl⟩ ⟨Nat.le_of_ble_eq_true rfl, Nat.le_of_ble_eq_true rfl⟩ rfl hl.1 rfl (Nat.le_of_ble_eq_true rfl) dX11_tend_98 hK hI (fun r G1 H1 L1 hp hI => ?_)
            obtain ⟨v, rfl, ev, hM⟩ := hp
            subst ev
            refine W.eq (g2 := F0 mI 101 ls [.int ((sp_tended (sp_tended A (A 0 (ix s)) n).2 (A 0 (ix s)) (sp_tended A (A 0 (ix s)) n).1).1)]) rfl ?_
            refine lv_i2l hx hb dX11_tend_101 rfl ?_
            refine lv_goto (tgt := 108) hx hb dX11_tend_102 (by decide) ?_
            have e9 : sp_tend A s n b = ((((sp_tended (sp_tended A (A 0 (ix s)) n).2 (A 0 (ix s)) (sp_tended A (A 0 (ix s)) n).1).1 : Int32).toInt64), (sp_tended (sp_tended A (A 0 (ix s)) n).2 (A 0 (ix s)) (sp_tended A (A 0 (ix s)) n).1).2) := by
              simp only [sp_tend, rfi, rfj, h_1, q_4, q_7, q_9, q_12, reduceIte, Bool.false_eq_true, not_true_eq_false, not_false_eq_true]
            exact g_lret hx hb hr hlocks hI ⟨_, rfl, by rw [e9], by rw [e9]; exact hM⟩ dX11_tend_108 (Nat.le_of_ble_eq_true rfl) (Nat.le_of_ble_eq_true rfl)
        · have q_13 := eqb_t c_8
          refine lv_aload_n hx hb dX11_tend_64 rfl (lv_at hl 2 rfl) ?_
          refine x_get (index := 22) hx hb hts hown hK hI hM 5 (by decide) m_fl_X11_22 rfl dX11_tend_65 rfl ?_
          refine lv_iload hx hb dX11_tend_68 (lv_at hl 0 rfl) ?_
          refine x_ld hx hb hK hI hM 5 (by decide) (hw.sh (sh_in h_1)) dX11_tend_70 ?_
          refine lv_if_ge (tgt := 80) hx hb dX11_tend_71 (by decide) (fun c_14 => ?_) (fun c_14 => ?_)
          · have c_14 := Int32.not_lt.mpr c_14
            refine lv_aload_n hx hb dX11_tend_80 rfl (lv_at hl 2 rfl) ?_
            refine lv_iload hx hb dX11_tend_81 (lv_at hl 0 rfl) ?_
            refine lv_iload_n hx hb dX11_tend_83 rfl (lv_at hl 4 rfl) ?_
            refine g_callV (own := RX11) (index := 94) (n := 2) hx hb hml hown hts (c_X11_tended l E b0 _ mo ma _ hM (A 0 (ix s)) n (hw.rowok (sh_in h_1))) hM.1 rfl rfl m_ml_X11_94 m_im_X11_tended m_se_X11_X11_tended_X11_tended m_in_X11 m_co_X11_tended (by decide +kernel) ⟨Nat.le_of_ble_eq_true rfl, Nat.le_of_ble_eq_true rfl⟩ ⟨Nat.le_of_ble_eq_true rfl, Nat.le_of_ble_eq_true rfl⟩ rfl hl.1 rfl (Nat.le_of_ble_eq_true rfl) dX11_tend_84 hK hI (fun r G1 H1 L1 hp hI => ?_)
            obtain ⟨v, rfl, ev, hM⟩ := hp
            subst ev
            refine W.eq (g2 := F0 mI 87 ls [.int ((sp_tended A (A 0 (ix s)) n).1)]) rfl ?_
            refine lv_istore (lv' := [(6, .int ((sp_tended A (A 0 (ix s)) n).1)), (5, .int (A 0 (ix s))), (4, .int (wHv A s)), (0, .ref mo), (1, .int s), (2, .int n), (3, .int b)]) hx hb dX11_tend_87 hl (by decide) rfl (fun ls hl => ?_)
            refine lv_iload_n hx hb dX11_tend_89 rfl (lv_at hl 6 rfl) ?_
            refine lv_if_eq (tgt := 105) hx hb dX11_tend_90 (by decide) (fun c_15 => ?_) (fun c_15 => ?_)
            · have q_16 := eqb_t c_15
              refine lv_iload hx hb dX11_tend_105 (lv_at hl 0 rfl) ?_
              refine lv_i2l hx hb dX11_tend_107 rfl ?_
              have e9 : sp_tend A s n b = ((((sp_tended A (A 0 (ix s)) n).1 : Int32).toInt64), (sp_tended A (A 0 (ix s)) n).2) := by
                simp only [sp_tend, rfi, rfj, h_1, q_4, q_7, q_13, c_14, q_16, reduceIte, Bool.false_eq_true, not_true_eq_false, not_false_eq_true]
              exact g_lret hx hb hr hlocks hI ⟨_, rfl, by rw [e9], by rw [e9]; exact hM⟩ dX11_tend_108 (Nat.le_of_ble_eq_true rfl) (Nat.le_of_ble_eq_true rfl)
            · have q_17 := eqb_f c_15
              refine lv_aload_n hx hb dX11_tend_93 rfl (lv_at hl 3 rfl) ?_
              refine lv_iload hx hb dX11_tend_94 (lv_at hl 1 rfl) ?_
              refine lv_iload hx hb dX11_tend_96 (lv_at hl 0 rfl) ?_
              refine g_callV (own := RX11) (index := 94) (n := 2) hx hb hml hown hts (c_X11_tended l E b0 _ mo ma _ hM (A 0 (ix s)) (sp_tended A (A 0 (ix s)) n).1 ((hw.rowok (sh_in h_1)).of3 tended_o)) hM.1 rfl rfl m_ml_X11_94 m_im_X11_tended m_se_X11_X11_tended_X11_tended m_in_X11 m_co_X11_tended (by decide +kernel) ⟨Nat.le_of_ble_eq_true rfl, Nat.le_of_ble_eq_true rfl⟩ ⟨Nat.le_of_ble_eq_true rfl, Nat.le_of_ble_eq_true rfl⟩ rfl hl.1 rfl (Nat.le_of_ble_eq_true rfl) dX11_tend_98 hK hI (fun r G1 H1 L1 hp hI => ?_)
              obtain ⟨v, rfl, ev, hM⟩ := hp
              subst ev
              refine W.eq (g2 := F0 mI 101 ls [.int ((sp_tended (sp_tended A (A 0 (ix s)) n).2 (A 0 (ix s)) (sp_tended A (A 0 (ix s)) n).1).1)]) rfl ?_
              refine lv_i2l hx hb dX11_tend_101 rfl ?_
              refine lv_goto (tgt := 108) hx hb dX11_tend_102 (by decide) ?_
              have e9 : sp_tend A s n b = ((((sp_tended (sp_tended A (A 0 (ix s)) n).2 (A 0 (ix s)) (sp_tended A (A 0 (ix s)) n).1).1 : Int32).toInt64), (sp_tended (sp_tended A (A 0 (ix s)) n).2 (A 0 (ix s)) (sp_tended A (A 0 (ix s)) n).1).2) := by
                simp only [sp_tend, rfi, rfj, h_1, q_4, q_7, q_13, c_14, q_17, reduceIte, Bool.false_eq_true, not_true_eq_false, not_false_eq_true]
              exact g_lret hx hb hr hlocks hI ⟨_, rfl, by rw [e9], by rw [e9]; exact hM⟩ dX11_tend_108 (Nat.le_of_ble_eq_true rfl) (Nat.le_of_ble_eq_true rfl)
          · have c_14 := Int32.not_le.mp c_14
            refine lv_aload_n hx hb dX11_tend_74 rfl (lv_at hl 2 rfl) ?_
            refine lv_iconst (v := 1) hx hb dX11_tend_75 (by decide) ?_
            refine g_callV (own := RX11) (index := 90) (n := 1) hx hb hml hown hts (c_X11_refuseLong l E b0 _ mo ma _ hM 1 (vp_in_iff.mpr (by decide))) hM.1 rfl rfl m_ml_X11_90 m_im_X11_refuseLong m_se_X11_X11_refuseLong_X11_refuseLong m_in_X11 m_co_X11_refuseLong (by decide +kernel) ⟨Nat.le_of_ble_eq_true rfl, Nat.le_of_ble_eq_true rfl⟩ ⟨Nat.le_of_ble_eq_true rfl, Nat.le_of_ble_eq_true rfl⟩ rfl hl.1 rfl (Nat.le_of_ble_eq_true rfl) dX11_tend_76 hK hI (fun r G1 H1 L1 hp hI => ?_)
            obtain ⟨v, rfl, ev, hM⟩ := hp
            subst ev
            refine W.eq (g2 := F0 mI 79 ls [.long (-9223372036854775708 + ((-10 - 1) : Int32).toInt64)]) rfl ?_
            have e9 : sp_tend A s n b = ((-9223372036854775708 + ((-10 - 1) : Int32).toInt64), (rfs A 1)) := by
              simp only [sp_tend, rfi, rfj, h_1, q_4, q_7, q_13, c_14, reduceIte, Bool.false_eq_true, not_true_eq_false, not_false_eq_true]
            exact g_lret hx hb hr hlocks hI ⟨_, rfl, by rw [e9], by rw [e9]; exact hM⟩ dX11_tend_79 (Nat.le_of_ble_eq_true rfl) (Nat.le_of_ble_eq_true rfl)
    · have q_18 := eqb_f c_3
      refine lv_aload_n hx hb dX11_tend_23 rfl (lv_at hl 1 rfl) ?_
      refine lv_iload hx hb dX11_tend_24 (lv_at hl 0 rfl) ?_
      refine g_callV (own := RX11) (index := 90) (n := 1) hx hb hml hown hts (c_X11_refuseLong l E b0 _ mo ma _ hM (wHv A s) wHv_in) hM.1 rfl rfl m_ml_X11_90 m_im_X11_refuseLong m_se_X11_X11_refuseLong_X11_refuseLong m_in_X11 m_co_X11_refuseLong (by decide +kernel) ⟨Nat.le_of_ble_eq_true rfl, Nat.le_of_ble_eq_true rfl⟩ ⟨Nat.le_of_ble_eq_true rfl, Nat.le_of_ble_eq_true rfl⟩ rfl hl.1 rfl (Nat.le_of_ble_eq_true rfl) dX11_tend_26 hK hI (fun r G1 H1 L1 hp hI => ?_)
      obtain ⟨v, rfl, ev, hM⟩ := hp
      subst ev
      refine W.eq (g2 := F0 mI 29 ls [.long (-9223372036854775708 + ((-10 - (wHv A s)) : Int32).toInt64)]) rfl ?_
      have e9 : sp_tend A s n b = ((-9223372036854775708 + ((-10 - (wHv A s)) : Int32).toInt64), (rfs A (wHv A s))) := by
        simp only [sp_tend, rfi, rfj, h_1, q_18, reduceIte, Bool.false_eq_true, not_true_eq_false, not_false_eq_true]
      exact g_lret hx hb hr hlocks hI ⟨_, rfl, by rw [e9], by rw [e9]; exact hM⟩ dX11_tend_29 (Nat.le_of_ble_eq_true rfl) (Nat.le_of_ble_eq_true rfl)
  · rw [hG] at hI
    refine W.eq (g2 := F0 mI 4 ls [.int 0]) rfl ?_
    refine lv_if_ne (tgt := 11) hx hb dX11_tend_4 (by decide) (fun c_19 => absurd c_19 (by decide)) (fun _ => ?_)
    refine lv_ldc2 hx hb hown (hts _ m_kl_X11_88) dX11_tend_7 ?_
    have e9 : sp_tend A s n b = ((-9223372036854775808), A) := by
      simp only [sp_tend, rfi, rfj, h_1, reduceIte, Bool.false_eq_true, not_true_eq_false, not_false_eq_true]
    exact g_lret hx hb hr hlocks hI ⟨_, rfl, by rw [e9], by rw [e9]; exact hM⟩ dX11_tend_10 (Nat.le_of_ble_eq_true rfl) (Nat.le_of_ble_eq_true rfl)
set_option maxHeartbeats 4000000 in
set_option maxRecDepth 100000 in
theorem c_X11_harvest (l : Launch) (E : gE) (b0 : Nat) (G : gG) (mo : Nat) (ma : Nat → Nat) (A : gA) (hM : gMod E mo ma A G) (nn : Nat) (hw : wfb A nn) (s v : Int32) : gM l yX11_harvest cX11_harvest 9 (some .long) 5 0 0 E b0 G [.ref mo, .int s, .int v] (pL (fun v9 G1 => v9 = (sp_harvest A s v).1 ∧ gMod E mo ma (sp_harvest A s v).2 G1)) := by
  refine gM.of (by decide +kernel) (Nat.le_of_ble_eq_true rfl) ?_
  intro pP eP sP mI bP meth cP ls hx hb hr hml hown hlocks hnm hts hK hI hl
  have hl : lv_has ls 9 [(0, .ref mo), (1, .int s), (2, .int v)] := hl
  have hown : sP.vm.findClass RX11 = some mI.cls := hown
  refine lv_iload_n hx hb dX11_harvest_0 rfl (lv_at hl 1 rfl) ?_
  refine g_callS (own := RX11) (index := 64) (n := 1) hx hb hml hown hts (c_X11_isShelf l E b0 _ s) m_ml_X11_64 m_st_X11_isShelf m_in_X11 m_co_X11_isShelf (by decide +kernel) ⟨Nat.le_of_ble_eq_true rfl, Nat.le_of_ble_eq_true rfl⟩ ⟨Nat.le_of_ble_eq_true rfl, Nat.le_of_ble_eq_true rfl⟩ rfl hl.1 rfl (Nat.le_of_ble_eq_true rfl) dX11_harvest_1 hK hI (fun r G1 H1 L1 hp hI => ?_)
  obtain ⟨v, rfl, hG, ⟨h_1, rfl⟩ | ⟨h_1, rfl⟩⟩ := hp
  · rw [hG] at hI
    refine W.eq (g2 := F0 mI 4 ls [.int 1]) rfl ?_
    refine lv_if_eq (tgt := 12) hx hb dX11_harvest_4 (by decide) (fun c_2 => absurd c_2 (by decide)) (fun _ => ?_)
    refine lv_iload_n hx hb dX11_harvest_7 rfl (lv_at hl 2 rfl) ?_
    refine lv_iconst (v := 1) hx hb dX11_harvest_8 (by decide) ?_
    refine lv_icmp_ge (tgt := 16) hx hb dX11_harvest_9 (by decide) (fun c_3 => ?_) (fun c_3 => ?_)
    · have c_3 := Int32.not_lt.mpr c_3
      refine lv_aload_n hx hb dX11_harvest_16 rfl (lv_at hl 0 rfl) ?_
      refine lv_iload_n hx hb dX11_harvest_17 rfl (lv_at hl 1 rfl) ?_
      refine g_callV (own := RX11) (index := 82) (n := 1) hx hb hml hown hts (c_X11_wrongRow l E b0 _ mo ma _ hM nn hw s h_1) hM.1 rfl rfl m_ml_X11_82 m_im_X11_wrongRow m_se_X11_X11_wrongRow_X11_wrongRow m_in_X11 m_co_X11_wrongRow (by decide +kernel) ⟨Nat.le_of_ble_eq_true rfl, Nat.le_of_ble_eq_true rfl⟩ ⟨Nat.le_of_ble_eq_true rfl, Nat.le_of_ble_eq_true rfl⟩ rfl hl.1 rfl (Nat.le_of_ble_eq_true rfl) dX11_harvest_18 hK hI (fun r G1 H1 L1 hp hI => ?_)
      obtain ⟨v, rfl, ev, hG⟩ := hp
      subst ev
      rw [hG] at hI
      refine W.eq (g2 := F0 mI 21 ls [.int (wRw A s)]) rfl ?_
      refine lv_istore_n (lv' := [(3, .int (wRw A s)), (0, .ref mo), (1, .int s), (2, .int v)]) hx hb dX11_harvest_21 rfl hl (by decide) rfl (fun ls hl => ?_)
      refine lv_iload_n hx hb dX11_harvest_22 rfl (lv_at hl 0 rfl) ?_
      refine lv_if_eq (tgt := 32) hx hb dX11_harvest_23 (by decide) (fun c_4 => ?_) (fun c_4 => ?_)
      · have q_5 := eqb_t c_4
        refine lv_aload_n hx hb dX11_harvest_32 rfl (lv_at hl 1 rfl) ?_
        refine x_get (index := 7) hx hb hts hown hK hI hM 0 (by decide) m_fl_X11_7 rfl dX11_harvest_33 rfl ?_
        refine lv_iload_n hx hb dX11_harvest_36 rfl (lv_at hl 2 rfl) ?_
        refine x_ld hx hb hK hI hM 0 (by decide) (sh_in h_1) dX11_harvest_37 ?_
        refine lv_istore (lv' := [(4, .int (A 0 (ix s))), (3, .int (wRw A s)), (0, .ref mo), (1, .int s), (2, .int v)]) hx hb dX11_harvest_38 hl (by decide) rfl (fun ls hl => ?_)
        have hr0 := hw.rowok (sh_in h_1)
        refine lv_lconst (v := 0) hx hb dX11_harvest_40 (by decide) ?_
        refine lv_lstore (lv' := [(5, .long 0), (4, .int (A 0 (ix s))), (3, .int (wRw A s)), (0, .ref mo), (1, .int s), (2, .int v)]) hx hb dX11_harvest_41 hl (by decide) rfl (fun ls hl => ?_)
        refine lv_iconst (v := 0) hx hb dX11_harvest_43 (by decide) ?_
        refine lv_istore (lv' := [(7, .int 0), (5, .long 0), (4, .int (A 0 (ix s))), (3, .int (wRw A s)), (0, .ref mo), (1, .int s), (2, .int v)]) hx hb dX11_harvest_44 hl (by decide) rfl (fun ls hl => ?_)
        have key : ∀ (j : Nat) (i : Nat) (al : Int64) (B : gA) (G1 : gG) (H1 : Heap) (L1 : List Loc) (ls : Array Slot), i + j = ix (A 5 (ix (A 0 (ix s)))) → hvl A (A 0 (ix s)) v i = (al, B) → gMod E mo ma B G1 → gI E.1 b0 G sP.heap G1 H1 L1 → lv_has ls 9 [(7, .int (nI i)), (5, .long al), (4, .int (A 0 (ix s))), (3, .int (wRw A s)), (0, .ref mo), (1, .int s), (2, .int v)] → W pP l eP (rmL 5 0 0) sP mI [.ref mo, .int s, .int v].toArray bP meth cP H1 L1 0 0 (MQ bP (gQ E b0 G (pL (fun v9 G1 => v9 = (sp_harvest A s v).1 ∧ gMod E mo ma (sp_harvest A s v).2 G1))) [.ref mo, .int s, .int v].toArray sP 0 0 (fun q => b0 ≤ q)) (F0 mI 46 ls []) := by
          intro j
          induction j with
          | zero =>
            intro i al B G1 H1 L1 ls hk hT hM hI hl
            have h5 : B 5 = A 5 := hvl_o hT 5 (by decide)
            have h6 : B 6 = A 6 := hvl_o hT 6 (by decide)
            have h30 := hr0.2.2.2.1
            have hlt : ¬ nI i < B 5 (ix (A 0 (ix s))) := by rw [h5, hr0.2.2.2.2 i (by omega)]; omega
            refine lv_iload hx hb dX11_harvest_46 (lv_at hl 0 rfl) ?_
            refine lv_aload_n hx hb dX11_harvest_48 rfl (lv_at hl 4 rfl) ?_
            refine x_get (index := 22) hx hb hts hown hK hI hM 5 (by decide) m_fl_X11_22 rfl dX11_harvest_49 rfl ?_
            refine lv_iload hx hb dX11_harvest_52 (lv_at hl 2 rfl) ?_
            refine x_ld hx hb hK hI hM 5 (by decide) hr0.1 dX11_harvest_54 ?_
            refine lv_icmp_ge (tgt := 113) hx hb dX11_harvest_55 (by decide) (fun _ => ?_) (fun c_6 => by have c_6 := Int32.not_le.mp c_6; first | exact absurd hlt c_6 | exact absurd c_6 hlt)
            refine lv_lload hx hb dX11_harvest_113 (lv_at hl 1 rfl) ?_
            have e9 : sp_harvest A s v = (al, B) := by simp only [sp_harvest, h_1, c_3, q_5, reduceIte, Bool.false_eq_true, not_true_eq_false, not_false_eq_true, show ix (A 5 (ix (A 0 (ix s)))) = i by omega, hT]
            exact g_lret hx hb hr hlocks hI ⟨_, rfl, by rw [e9], by rw [e9]; exact hM⟩ dX11_harvest_115 (Nat.le_of_ble_eq_true rfl) (Nat.le_of_ble_eq_true rfl)
          | succ j ih =>
            intro i al B G1 H1 L1 ls hk hT hM hI hl
            have h5 : B 5 = A 5 := hvl_o hT 5 (by decide)
            have h6 : B 6 = A 6 := hvl_o hT 6 (by decide)
            have h30 := hr0.2.2.2.1
            have hlt : nI i < B 5 (ix (A 0 (ix s))) := by rw [h5, hr0.2.2.2.2 i (by omega)]; omega
            refine lv_iload hx hb dX11_harvest_46 (lv_at hl 0 rfl) ?_
            refine lv_aload_n hx hb dX11_harvest_48 rfl (lv_at hl 4 rfl) ?_
            refine x_get (index := 22) hx hb hts hown hK hI hM 5 (by decide) m_fl_X11_22 rfl dX11_harvest_49 rfl ?_
            refine lv_iload hx hb dX11_harvest_52 (lv_at hl 2 rfl) ?_
            refine x_ld hx hb hK hI hM 5 (by decide) hr0.1 dX11_harvest_54 ?_
            refine lv_icmp_ge (tgt := 113) hx hb dX11_harvest_55 (by decide) (fun c_7 => by have c_7 := Int32.not_lt.mpr c_7; first | exact absurd hlt c_7 | exact absurd c_7 hlt) (fun _ => ?_)
            refine lv_aload_n hx hb dX11_harvest_58 rfl (lv_at hl 4 rfl) ?_
            refine x_get (index := 25) hx hb hts hown hK hI hM 6 (by decide) m_fl_X11_25 rfl dX11_harvest_59 rfl ?_
            refine lv_bipush (v := 30) hx hb dX11_harvest_62 (by decide) ?_
            refine lv_iload hx hb dX11_harvest_64 (lv_at hl 2 rfl) ?_
            refine lv_imul hx hb dX11_harvest_66 ?_
            refine lv_iload hx hb dX11_harvest_67 (lv_at hl 0 rfl) ?_
            refine lv_iadd hx hb dX11_harvest_69 ?_
            refine x_ld hx hb hK hI hM 6 (by decide) (ix30 hr0.1 (show i < 30 by omega)).1 dX11_harvest_70 ?_
            refine lv_istore (lv' := [(8, .int (B 6 (ix ((30 * (A 0 (ix s))) + (nI i))))), (7, .int (nI i)), (5, .long al), (4, .int (A 0 (ix s))), (3, .int (wRw A s)), (0, .ref mo), (1, .int s), (2, .int v)]) hx hb dX11_harvest_71 hl (by decide) rfl (fun ls hl => ?_)
            refine lv_iload hx hb dX11_harvest_73 (lv_at hl 0 rfl) ?_
            refine lv_if_eq (tgt := 107) hx hb dX11_harvest_75 (by decide) (fun c_8 => ?_) (fun c_8 => ?_)
            · have q_9 := eqb_t c_8
              refine lv_iinc (v := ((nI i) + 1)) (lv' := [(7, .int ((nI i) + 1)), (8, .int (B 6 (ix ((30 * (A 0 (ix s))) + (nI i))))), (5, .long al), (4, .int (A 0 (ix s))), (3, .int (wRw A s)), (0, .ref mo), (1, .int s), (2, .int v)]) hx hb dX11_harvest_107 hl (k := 1) rfl rfl (by decide) rfl (fun ls hl => ?_)
              refine lv_goto (tgt := 46) hx hb dX11_harvest_110 (by decide) ?_
              have e9 : hvl A (A 0 (ix s)) v (i + 1) = (al, B) := by simp only [hvl, hT, ← h6, h_1, c_3, q_5, q_9, reduceIte, Bool.false_eq_true, not_true_eq_false, not_false_eq_true]
              rw [nI_1] at hl
              exact ih (i + 1) _ _ _ _ _ ls (by omega) e9 hM hI (lv_sub hl [0, 2, 3, 4, 5, 6, 7] rfl)
            · have q_10 := eqb_f c_8
              refine lv_aload_n hx hb dX11_harvest_78 rfl (lv_at hl 5 rfl) ?_
              refine x_get (index := 16) hx hb hts hown hK hI hM 3 (by decide) m_fl_X11_16 rfl dX11_harvest_79 rfl ?_
              refine lv_iload hx hb dX11_harvest_82 (lv_at hl 0 rfl) ?_
              refine x_ld hx hb hK hI hM 3 (by decide) (by rw [h6]; exact hr0.2.2.1 i (by omega)) dX11_harvest_84 ?_
              refine lv_iload_n hx hb dX11_harvest_85 rfl (lv_at hl 7 rfl) ?_
              refine lv_icmp_lt (tgt := 107) hx hb dX11_harvest_86 (by decide) (fun c_11 => ?_) (fun c_11 => ?_)
              · refine lv_iinc (v := ((nI i) + 1)) (lv' := [(7, .int ((nI i) + 1)), (8, .int (B 6 (ix ((30 * (A 0 (ix s))) + (nI i))))), (5, .long al), (4, .int (A 0 (ix s))), (3, .int (wRw A s)), (0, .ref mo), (1, .int s), (2, .int v)]) hx hb dX11_harvest_107 hl (k := 1) rfl rfl (by decide) rfl (fun ls hl => ?_)
                refine lv_goto (tgt := 46) hx hb dX11_harvest_110 (by decide) ?_
                have e9 : hvl A (A 0 (ix s)) v (i + 1) = (al, B) := by simp only [hvl, hT, ← h6, h_1, c_3, q_5, q_10, c_11, reduceIte, Bool.false_eq_true, not_true_eq_false, not_false_eq_true]
                rw [nI_1] at hl
                exact ih (i + 1) _ _ _ _ _ ls (by omega) e9 hM hI (lv_sub hl [0, 2, 3, 4, 5, 6, 7] rfl)
              · refine lv_aload_n hx hb dX11_harvest_89 rfl (lv_at hl 5 rfl) ?_
                refine x_get (index := 16) hx hb hts hown hK hI hM 3 (by decide) m_fl_X11_16 rfl dX11_harvest_90 rfl ?_
                refine lv_iload hx hb dX11_harvest_93 (lv_at hl 0 rfl) ?_
                refine lv_dup2_11 hx hb dX11_harvest_95 rfl rfl ?_
                refine x_ld hx hb hK hI hM 3 (by decide) (by rw [h6]; exact hr0.2.2.1 i (by omega)) dX11_harvest_96 ?_
                refine lv_iload_n hx hb dX11_harvest_97 rfl (lv_at hl 7 rfl) ?_
                refine lv_isub hx hb dX11_harvest_98 ?_
                refine x_st hx hb hK hI hM 3 (by decide) (by rw [h6]; exact hr0.2.2.1 i (by omega)) dX11_harvest_99 (fun G1 H1 L1 hM hI => ?_)
                refine lv_lload hx hb dX11_harvest_100 (lv_at hl 2 rfl) ?_
                refine lv_iload_n hx hb dX11_harvest_102 rfl (lv_at hl 7 rfl) ?_
                refine lv_i2l hx hb dX11_harvest_103 rfl ?_
                refine lv_ladd hx hb dX11_harvest_104 ?_
                refine lv_lstore (lv' := [(5, .long (al + ((v : Int32).toInt64))), (8, .int (B 6 (ix ((30 * (A 0 (ix s))) + (nI i))))), (7, .int (nI i)), (4, .int (A 0 (ix s))), (3, .int (wRw A s)), (0, .ref mo), (1, .int s), (2, .int v)]) hx hb dX11_harvest_105 hl (by decide) rfl (fun ls hl => ?_)
                refine lv_iinc (v := ((nI i) + 1)) (lv' := [(7, .int ((nI i) + 1)), (5, .long (al + ((v : Int32).toInt64))), (8, .int (B 6 (ix ((30 * (A 0 (ix s))) + (nI i))))), (4, .int (A 0 (ix s))), (3, .int (wRw A s)), (0, .ref mo), (1, .int s), (2, .int v)]) hx hb dX11_harvest_107 hl (k := 2) rfl rfl (by decide) rfl (fun ls hl => ?_)
                refine lv_goto (tgt := 46) hx hb dX11_harvest_110 (by decide) ?_
                have e9 : hvl A (A 0 (ix s)) v (i + 1) = ((al + ((v : Int32).toInt64)), (u2 B 3 (ix (B 6 (ix ((30 * (A 0 (ix s))) + (nI i))))) ((B 3 (ix (B 6 (ix ((30 * (A 0 (ix s))) + (nI i)))))) - v))) := by simp only [hvl, hT, ← h6, h_1, c_3, q_5, q_10, c_11, reduceIte, Bool.false_eq_true, not_true_eq_false, not_false_eq_true]
                rw [nI_1] at hl
                exact ih (i + 1) _ _ _ _ _ ls (by omega) e9 hM hI (lv_sub hl [0, 1, 3, 4, 5, 6, 7] rfl)
        exact key (ix (A 5 (ix (A 0 (ix s))))) 0 0 A _ _ _ ls (by omega) rfl hM hI (by rw [nI_0]; exact hl)
      · have q_12 := eqb_f c_4
        refine lv_aload_n hx hb dX11_harvest_26 rfl (lv_at hl 1 rfl) ?_
        refine lv_iload_n hx hb dX11_harvest_27 rfl (lv_at hl 0 rfl) ?_
        refine g_callV (own := RX11) (index := 90) (n := 1) hx hb hml hown hts (c_X11_refuseLong l E b0 _ mo ma _ hM (wRw A s) wRw_in) hM.1 rfl rfl m_ml_X11_90 m_im_X11_refuseLong m_se_X11_X11_refuseLong_X11_refuseLong m_in_X11 m_co_X11_refuseLong (by decide +kernel) ⟨Nat.le_of_ble_eq_true rfl, Nat.le_of_ble_eq_true rfl⟩ ⟨Nat.le_of_ble_eq_true rfl, Nat.le_of_ble_eq_true rfl⟩ rfl hl.1 rfl (Nat.le_of_ble_eq_true rfl) dX11_harvest_28 hK hI (fun r G1 H1 L1 hp hI => ?_)
        obtain ⟨v, rfl, ev, hM⟩ := hp
        subst ev
        refine W.eq (g2 := F0 mI 31 ls [.long (-9223372036854775708 + ((-10 - (wRw A s)) : Int32).toInt64)]) rfl ?_
        have e9 : sp_harvest A s v = ((-9223372036854775708 + ((-10 - (wRw A s)) : Int32).toInt64), (rfs A (wRw A s))) := by simp only [sp_harvest, rfj, h_1, c_3, q_12, reduceIte, Bool.false_eq_true, not_true_eq_false, not_false_eq_true]
        exact g_lret hx hb hr hlocks hI ⟨_, rfl, by rw [e9], by rw [e9]; exact hM⟩ dX11_harvest_31 (Nat.le_of_ble_eq_true rfl) (Nat.le_of_ble_eq_true rfl)
    · have c_3 := Int32.not_le.mp c_3
      refine lv_ldc2 hx hb hown (hts _ m_kl_X11_88) dX11_harvest_12 ?_
      have e9 : sp_harvest A s v = ((-9223372036854775808), A) := by simp only [sp_harvest, rfj, h_1, c_3, reduceIte, Bool.false_eq_true, not_true_eq_false, not_false_eq_true]
      exact g_lret hx hb hr hlocks hI ⟨_, rfl, by rw [e9], by rw [e9]; exact hM⟩ dX11_harvest_15 (Nat.le_of_ble_eq_true rfl) (Nat.le_of_ble_eq_true rfl)
  · rw [hG] at hI
    refine W.eq (g2 := F0 mI 4 ls [.int 0]) rfl ?_
    refine lv_if_eq (tgt := 12) hx hb dX11_harvest_4 (by decide) (fun _ => ?_) (fun c_13 => absurd c_13 (by decide))
    refine lv_ldc2 hx hb hown (hts _ m_kl_X11_88) dX11_harvest_12 ?_
    have e9 : sp_harvest A s v = ((-9223372036854775808), A) := by simp only [sp_harvest, rfj, h_1, reduceIte, Bool.false_eq_true, not_true_eq_false, not_false_eq_true]
    exact g_lret hx hb hr hlocks hI ⟨_, rfl, by rw [e9], by rw [e9]; exact hM⟩ dX11_harvest_15 (Nat.le_of_ble_eq_true rfl) (Nat.le_of_ble_eq_true rfl)
