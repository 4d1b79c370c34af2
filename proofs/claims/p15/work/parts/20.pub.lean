theorem sh_lt {s : Int32} (h : isSh s = true) : ix s < 16 := by
  obtain ⟨k, hk, rfl⟩ := vp_in_of (sh_in h) (by decide)
  rw [ix_nI (by omega)]
  exact hk
theorem SW.slp {E : gE} {x : Nat} {aa : Nat → Nat} {A : gA} {n : Nat} {G : gG} (hS : SW E x aa A n G) (hn : n < 600) {w i : Int32} (hw : tv n w) (h0 : eqb w 0 = false) (h5 : ¬ A 5 (ix w) < 0) (hi : inb i 0 (A 5 (ix w) - 1) = true) {u : Int32} (hu : tv n u) (hf : fit A u 0 1 = true) (h7 : eqb (A 2 (ix w)) 7 = true → fit A u 1 1 = true) : SW E x aa (u2 A 6 (ix (30 * w + i)) u) n (gu G (aa (4 * ix w + 1)) (.inl (E.2.2.2, ix (A 5 (ix w)), .inr (.inr (.inr (.inr (va_up (rwf aa A (ix w)) (Int32.toNatClampNeg i) (adr aa u)))))))) := by
  obtain ⟨k, j, hk, hj, rfl, q, e⟩ := hS.slot hn hw h5 hi
  rw [e, show Int32.toNatClampNeg (nI k) = k from ix_nI (by omega)]
  exact hS.p6 (ix w) k (hw.pos hn h0) (hw.ixle hn).1 (by omega) h5 hu hf h7
theorem p5y {aa : Nat → Nat} {A : gA} {t : Nat} (h : inb (A 2 t) 6 7 = true) (hk : ∃ k, k ≤ 7 ∧ A 2 t = nI k) : (.inr (5, (hvf aa A t).set 1 .null) : va_E) = thc aa (u2 A 5 t (-1)) t := by
  rw [thc_hive (A := u2 A 5 t (-1)) (by rw [u2_ne (by decide)]; exact h) (by rw [u2_ne (by decide)]; exact hk)]
  simp [hvf, rwo, cbo, u2, lt_05, va_rf]
theorem p34y_0_3 {aa : Nat → Nat} {A : gA} {t : Nat} {v : Int32} (h : eqb (A 2 t) 0 = true) : (.inr (4, ([.int 0, .int (A 3 t)] : List Value).set 1 (.int v)) : va_E) = thc aa (u2 A 3 t v) t := by
  rw [thc_0 (A := u2 A 3 t v) (by rw [u2_ne (by decide)]; exact h)]
  simp [u2]
theorem p34y_1_3 {aa : Nat → Nat} {A : gA} {t : Nat} {v : Int32} (h : eqb (A 2 t) 1 = true) : (.inr (1, ([.int (A 3 t), .int 1, .int (A 4 t)] : List Value).set 0 (.int v)) : va_E) = thc aa (u2 A 3 t v) t := by
  rw [thc_1 (A := u2 A 3 t v) (by rw [u2_ne (by decide)]; exact h)]
  simp [u2]
theorem p34y_1_4 {aa : Nat → Nat} {A : gA} {t : Nat} {v : Int32} (h : eqb (A 2 t) 1 = true) : (.inr (1, ([.int (A 3 t), .int 1, .int (A 4 t)] : List Value).set 2 (.int v)) : va_E) = thc aa (u2 A 4 t v) t := by
  rw [thc_1 (A := u2 A 4 t v) (by rw [u2_ne (by decide)]; exact h)]
  simp [u2]
theorem p34y_2_4 {aa : Nat → Nat} {A : gA} {t : Nat} {v : Int32} (h : eqb (A 2 t) 2 = true) : (.inr (6, ([.int 2, .int (A 3 t), .int (A 4 t)] : List Value).set 2 (.int v)) : va_E) = thc aa (u2 A 4 t v) t := by
  rw [thc_2 (A := u2 A 4 t v) (by rw [u2_ne (by decide)]; exact h)]
  simp [u2]
theorem p34y_3_3 {aa : Nat → Nat} {A : gA} {t : Nat} {v : Int32} (h : eqb (A 2 t) 3 = true) : (.inr (7, ([.int (A 3 t), .int 3] : List Value).set 0 (.int v)) : va_E) = thc aa (u2 A 3 t v) t := by
  rw [thc_3 (A := u2 A 3 t v) (by rw [u2_ne (by decide)]; exact h)]
  simp [u2]
theorem p34y_4_3 {aa : Nat → Nat} {A : gA} {t : Nat} {v : Int32} (h : eqb (A 2 t) 4 = true) : (.inr (3, ([.int (A 3 t), .int 4] : List Value).set 0 (.int v)) : va_E) = thc aa (u2 A 3 t v) t := by
  rw [thc_4 (A := u2 A 3 t v) (by rw [u2_ne (by decide)]; exact h)]
  simp [u2]
set_option maxHeartbeats 4000000 in
set_option maxRecDepth 100000 in
theorem c_X10_refuse (l : Launch) (E : gE) (b0 : Nat) (G : gG) (x : Nat) (aa : Nat → Nat) (A : gA) (nn : Nat) (hS : SW E x aa A nn G) (hn : nn < 600) (k : Int32) (hk : vp_in k 7) : gM l yX10_refuse cX10_refuse 2 (some .int) 0 0 0 E b0 G [.ref x, .int k] (pI (fun v9 G1 => v9 = -10 - k ∧ SW E x aa (rfs A k) nn G1)) := by
  obtain rfl : aa 0 = x := hS.2.2.1
  refine gM.of (by decide +kernel) (Nat.le_of_ble_eq_true rfl) ?_
  intro pP eP sP mI bP meth cP ls hx hb hr hml hown hlocks hnm hts hK hI hl
  have hl : lv_has ls 2 [(0, .ref (aa 0)), (1, .int k)] := hl
  have hown : sP.vm.findClass RX10 = some mI.cls := hown
  refine lv_aload_n hx hb dX10_refuse_0 rfl (lv_at hl 0 rfl) ?_
  refine g_get (index := 15) (ci := 8) hx hb hts inlX10 hown hK hI hS.2.2.2.1 rfl 1 (by decide) m_fl_X10_15 (fun _ h9 => h9) rfl dX10_refuse_1 ?_
  refine lv_iconst (v := 0) hx hb dX10_refuse_4 (by decide) ?_
  refine lv_dup2_11 hx hb dX10_refuse_5 rfl rfl ?_
  refine g_iald hx hb hK hI hS.2.2.2.2.2.1 (vp_in_iff.mpr (by decide)) dX10_refuse_6 ?_
  refine W.eq (g2 := F0 mI 7 ls [.int (A 13 (ix 0)), .int 0, .ref (aa 2)]) rfl ?_
  refine lv_iconst (v := 1) hx hb dX10_refuse_7 (by decide) ?_
  refine lv_iadd hx hb dX10_refuse_8 ?_
  refine g_iast hx hb hK hI hS.2.2.2.2.2.1 (vp_in_iff.mpr (by decide)) dX10_refuse_9 (fun H1 L1 hI => ?_)
  have hS := hS.p13 (ix 0) ((A 13 (ix 0)) + 1)
  refine W.eq (g2 := F0 mI 10 ls []) rfl ?_
  refine lv_aload_n hx hb dX10_refuse_10 rfl (lv_at hl 0 rfl) ?_
  refine g_get (index := 15) (ci := 8) hx hb hts inlX10 hown hK hI hS.2.2.2.1 rfl 1 (by decide) m_fl_X10_15 (fun _ h9 => h9) rfl dX10_refuse_11 ?_
  refine lv_iload_n hx hb dX10_refuse_14 rfl (lv_at hl 1 rfl) ?_
  refine lv_dup2_11 hx hb dX10_refuse_15 rfl rfl ?_
  refine g_iald hx hb hK hI hS.2.2.2.2.2.1 hk dX10_refuse_16 ?_
  refine W.eq (g2 := F0 mI 17 ls [.int ((u2 A 13 (ix 0) ((A 13 (ix 0)) + 1)) 13 (ix k)), .int k, .ref (aa 2)]) rfl ?_
  refine lv_iconst (v := 1) hx hb dX10_refuse_17 (by decide) ?_
  refine lv_iadd hx hb dX10_refuse_18 ?_
  refine g_iast hx hb hK hI hS.2.2.2.2.2.1 hk dX10_refuse_19 (fun H1 L1 hI => ?_)
  have hS := hS.p13 (ix k) (((u2 A 13 (ix 0) ((A 13 (ix 0)) + 1)) 13 (ix k)) + 1)
  refine W.eq (g2 := F0 mI 20 ls []) rfl ?_
  refine lv_bipush (v := -10) hx hb dX10_refuse_20 (by decide) ?_
  refine lv_iload_n hx hb dX10_refuse_22 rfl (lv_at hl 1 rfl) ?_
  refine lv_isub hx hb dX10_refuse_23 ?_
  exact g_iret hx hb hr hlocks hI ⟨_, rfl, rfl, hS⟩ dX10_refuse_24 (Nat.le_of_ble_eq_true rfl) (Nat.le_of_ble_eq_true rfl)
set_option maxHeartbeats 4000000 in
set_option maxRecDepth 100000 in
theorem c_X10_refuseLong (l : Launch) (E : gE) (b0 : Nat) (G : gG) (x : Nat) (aa : Nat → Nat) (A : gA) (nn : Nat) (hS : SW E x aa A nn G) (hn : nn < 600) (k : Int32) (hk : vp_in k 7) : gM l yX10_refuseLong cX10_refuseLong 2 (some .long) 1 0 0 E b0 G [.ref x, .int k] (pL (fun v9 G1 => v9 = -9223372036854775708 + (-10 - k).toInt64 ∧ SW E x aa (rfs A k) nn G1)) := by
  obtain rfl : aa 0 = x := hS.2.2.1
  refine gM.of (by decide +kernel) (Nat.le_of_ble_eq_true rfl) ?_
  intro pP eP sP mI bP meth cP ls hx hb hr hml hown hlocks hnm hts hK hI hl
  have hl : lv_has ls 2 [(0, .ref (aa 0)), (1, .int k)] := hl
  have hown : sP.vm.findClass RX10 = some mI.cls := hown
  refine lv_aload_n hx hb dX10_refuseLong_0 rfl (lv_at hl 0 rfl) ?_
  refine lv_iload_n hx hb dX10_refuseLong_1 rfl (lv_at hl 1 rfl) ?_
  refine g_callV (own := RX10) (index := 31) (n := 1) hx hb hml hown hts (c_X10_refuse l E b0 _ _ aa _ nn hS hn k hk) hS.2.2.2.1 rfl rfl m_ml_X10_31 m_im_X10_refuse m_se_X10_X10_refuse_X10_refuse m_in_X10 m_co_X10_refuse (by decide +kernel) ⟨Nat.le_of_ble_eq_true rfl, Nat.le_of_ble_eq_true rfl⟩ ⟨by first | exact Nat.le_of_ble_eq_true rfl | (show _ ≤ 0; omega), by first | exact Nat.le_of_ble_eq_true rfl | (show _ ≤ 0; omega)⟩ rfl hl.1 rfl (Nat.le_of_ble_eq_true rfl) dX10_refuseLong_2 hK hI (fun r G1 H1 L1 hp hI => ?_)
  obtain ⟨v, rfl, ev, hS⟩ := hp
  subst ev
  refine W.eq (g2 := F0 mI 5 ls [.int (-10 - k)]) rfl ?_
  refine lv_pop hx hb dX10_refuseLong_5 rfl ?_
  refine lv_ldc2 hx hb hown (hts _ m_kl_X10_167) dX10_refuseLong_6 ?_
  refine lv_iload_n hx hb dX10_refuseLong_9 rfl (lv_at hl 1 rfl) ?_
  refine lv_i2l hx hb dX10_refuseLong_10 rfl ?_
  refine lv_lsub hx hb dX10_refuseLong_11 ?_
  exact g_lret hx hb hr hlocks hI ⟨_, rfl, rfjk hk, hS⟩ dX10_refuseLong_12 (Nat.le_of_ble_eq_true rfl) (Nat.le_of_ble_eq_true rfl)
set_option maxHeartbeats 4000000 in
set_option maxRecDepth 100000 in
theorem c_X10_share (l : Launch) (E : gE) (b0 : Nat) (G : gG) (x : Nat) (aa : Nat → Nat) (A : gA) (nn : Nat) (hS : SW E x aa A nn G) (hn : nn < 600) (s f : Int32) : gM l yX10_share cX10_share 4 (some .int) 5 2 160 E b0 G [.ref x, .int s, .int f] (pI (fun v9 G1 => v9 = (sp_share A s f).1 ∧ ∃ aa1 n1, n1 ≤ nn + 1 ∧ SW E x aa1 (sp_share A s f).2 n1 G1)) := by
  obtain rfl : aa 0 = x := hS.2.2.1
  refine gM.of (by decide +kernel) (Nat.le_of_ble_eq_true rfl) ?_
  intro pP eP sP mI bP meth cP ls hx hb hr hml hown hlocks hnm hts hK hI hl
  have hl : lv_has ls 4 [(0, .ref (aa 0)), (1, .int s), (2, .int f)] := hl
  have hown : sP.vm.findClass RX10 = some mI.cls := hown
  refine lv_iload_n hx hb dX10_share_0 rfl (lv_at hl 1 rfl) ?_
  refine g_callS (own := RX10) (index := 23) (n := 1) hx hb hml hown hts (c_X10_isShelf l E b0 _ s) m_ml_X10_23 m_st_X10_isShelf m_in_X10 m_co_X10_isShelf (by decide +kernel) ⟨Nat.le_of_ble_eq_true rfl, Nat.le_of_ble_eq_true rfl⟩ ⟨by first | exact Nat.le_of_ble_eq_true rfl | (show _ ≤ 2; omega), by first | exact Nat.le_of_ble_eq_true rfl | (show _ ≤ 160; omega)⟩ rfl hl.1 rfl (Nat.le_of_ble_eq_true rfl) dX10_share_1 hK hI (fun r G1 H1 L1 hp hI => ?_)
  obtain ⟨v, rfl, hGe, ⟨h_1, rfl⟩ | ⟨h_1, rfl⟩⟩ := hp
  · rw [hGe] at hI
    refine W.eq (g2 := F0 mI 4 ls [.int 1]) rfl ?_
    refine lv_if_eq (tgt := 14) hx hb dX10_share_4 (by decide) (fun c_2 => absurd c_2 (by decide)) (fun _ => ?_)
    refine lv_iload_n hx hb dX10_share_7 rfl (lv_at hl 2 rfl) ?_
    refine g_callS (own := RX10) (index := 23) (n := 1) hx hb hml hown hts (c_X10_isShelf l E b0 _ f) m_ml_X10_23 m_st_X10_isShelf m_in_X10 m_co_X10_isShelf (by decide +kernel) ⟨Nat.le_of_ble_eq_true rfl, Nat.le_of_ble_eq_true rfl⟩ ⟨by first | exact Nat.le_of_ble_eq_true rfl | (show _ ≤ 2; omega), by first | exact Nat.le_of_ble_eq_true rfl | (show _ ≤ 160; omega)⟩ rfl hl.1 rfl (Nat.le_of_ble_eq_true rfl) dX10_share_8 hK hI (fun r G1 H1 L1 hp hI => ?_)
    obtain ⟨v, rfl, hGe, ⟨h_3, rfl⟩ | ⟨h_3, rfl⟩⟩ := hp
    · rw [hGe] at hI
      refine W.eq (g2 := F0 mI 11 ls [.int 1]) rfl ?_
      refine lv_if_ne (tgt := 16) hx hb dX10_share_11 (by decide) (fun _ => ?_) (fun c_4 => absurd c_4 (by decide))
      refine lv_aload_n hx hb dX10_share_16 rfl (lv_at hl 0 rfl) ?_
      refine g_get (index := 11) (ci := 8) hx hb hts inlX10 hown hK hI hS.2.2.2.1 rfl 0 (by decide) m_fl_X10_11 (fun _ h9 => h9) rfl dX10_share_17 ?_
      refine lv_iload_n hx hb dX10_share_20 rfl (lv_at hl 2 rfl) ?_
      rcases btf (eqb (A 0 (ix f)) 0) with h_5 | h_5
      · have z_6 := fun lo hi => fit_0 (A := A) lo hi h_5
        have t_7 : tv nn (A 0 (ix f)) := (hS.tsh h_3)
        refine g_aald hx hb hK hI 1 hS.2.2.2.2.1 rfl (sh_in h_3) dX10_share_21 ?_
        refine W.eq (g2 := F0 mI 22 ls [.null]) (by rw [show shf aa A (Int32.toNatClampNeg f) = adr aa (A 0 (ix f)) from shf_at h_3, adr_n h_5]; rfl) ?_
        refine lv_astore_nN (lv' := [(3, .null), (0, .ref (aa 0)), (1, .int s), (2, .int f)]) hx hb dX10_share_22 rfl hl (by decide) rfl (fun ls hl => ?_)
        refine lv_aload_n hx hb dX10_share_23 rfl (lv_at hl 1 rfl) ?_
        refine g_get (index := 11) (ci := 8) hx hb hts inlX10 hown hK hI hS.2.2.2.1 rfl 0 (by decide) m_fl_X10_11 (fun _ h9 => h9) rfl dX10_share_24 ?_
        refine lv_iload_n hx hb dX10_share_27 rfl (lv_at hl 2 rfl) ?_
        refine lv_aload_nN hx hb dX10_share_28 rfl (lv_at hl 0 rfl) ?_
        refine W.eq (g2 := F0 mI 29 ls [va_rf (adr aa (A 0 (ix f))), .int s, .ref (aa 1)]) (by rw [adr_n h_5]; rfl) ?_
        refine g_aast (o := adr aa (A 0 (ix f))) hx hb hK hI 1 hS.2.2.2.2.1 rfl (hS.any hn hK hI t_7) (sh_in h_1) dX10_share_29 (fun H1 L1 hI => ?_)
        have hS := hS.p0 (ix s) (sh_lt h_1) (w := (A 0 (ix f))) t_7
        refine W.eq (g2 := F0 mI 30 ls []) rfl ?_
        refine lv_aload_nN hx hb dX10_share_30 rfl (lv_at hl 0 rfl) ?_
        refine g_callS (own := RX10) (index := 42) (n := 1) hx hb hml hown hts (c_X10_oneIfThing_n l E b0 _) m_ml_X10_42 m_st_X10_oneIfThing m_in_X10 m_co_X10_oneIfThing (by decide +kernel) ⟨Nat.le_of_ble_eq_true rfl, Nat.le_of_ble_eq_true rfl⟩ ⟨by first | exact Nat.le_of_ble_eq_true rfl | (show _ ≤ 2; omega), by first | exact Nat.le_of_ble_eq_true rfl | (show _ ≤ 160; omega)⟩ rfl hl.1 rfl (Nat.le_of_ble_eq_true rfl) dX10_share_31 hK hI (fun r G1 H1 L1 hp hI => ?_)
        obtain ⟨v, rfl, ev, hGe⟩ := hp
        subst ev
        rw [hGe] at hI
        refine W.eq (g2 := F0 mI 34 ls [.int 0]) rfl ?_
        have e9 : sp_share A s f = (0, (u2 A 0 (ix s) (A 0 (ix f)))) := by
          simp only [sp_share, u2_hit, rfi, rfj, wHv, wRw, wSl, h_1, h_3, h_5, z_6, eqb_00, eqb_10, eqb_20, eqb_30, eqb_50, eqb_11, eqb_21, reduceIte, Bool.false_eq_true, not_true_eq_false, not_false_eq_true, ite_self]
        exact g_iret hx hb hr hlocks hI ⟨_, rfl, by rw [e9], aa, nn, by omega, by rw [e9]; exact hS⟩ dX10_share_34 (by omega) (by omega)
      · have _ := 0
        have t_8 : tv nn (A 0 (ix f)) := (hS.tsh h_3)
        refine g_aald hx hb hK hI 1 hS.2.2.2.2.1 rfl (sh_in h_3) dX10_share_21 ?_
        refine W.eq (g2 := F0 mI 22 ls [.ref (aa (4 * ix (A 0 (ix f))))]) (by rw [show shf aa A (Int32.toNatClampNeg f) = adr aa (A 0 (ix f)) from shf_at h_3, adr_s h_5]; rfl) ?_
        refine lv_astore_n (lv' := [(3, .ref (aa (4 * ix (A 0 (ix f))))), (0, .ref (aa 0)), (1, .int s), (2, .int f)]) hx hb dX10_share_22 rfl hl (by decide) rfl (fun ls hl => ?_)
        refine lv_aload_n hx hb dX10_share_23 rfl (lv_at hl 1 rfl) ?_
        refine g_get (index := 11) (ci := 8) hx hb hts inlX10 hown hK hI hS.2.2.2.1 rfl 0 (by decide) m_fl_X10_11 (fun _ h9 => h9) rfl dX10_share_24 ?_
        refine lv_iload_n hx hb dX10_share_27 rfl (lv_at hl 2 rfl) ?_
        refine lv_aload_n hx hb dX10_share_28 rfl (lv_at hl 0 rfl) ?_
        refine W.eq (g2 := F0 mI 29 ls [va_rf (adr aa (A 0 (ix f))), .int s, .ref (aa 1)]) (by rw [adr_s h_5]; rfl) ?_
        refine g_aast (o := adr aa (A 0 (ix f))) hx hb hK hI 1 hS.2.2.2.2.1 rfl (hS.any hn hK hI t_8) (sh_in h_1) dX10_share_29 (fun H1 L1 hI => ?_)
        have hS := hS.p0 (ix s) (sh_lt h_1) (w := (A 0 (ix f))) t_8
        refine W.eq (g2 := F0 mI 30 ls []) rfl ?_
        refine lv_aload_n hx hb dX10_share_30 rfl (lv_at hl 0 rfl) ?_
        refine g_callS (own := RX10) (index := 42) (n := 1) hx hb hml hown hts (c_X10_oneIfThing_r l E b0 _ (aa (4 * ix (A 0 (ix f))))) m_ml_X10_42 m_st_X10_oneIfThing m_in_X10 m_co_X10_oneIfThing (by decide +kernel) ⟨Nat.le_of_ble_eq_true rfl, Nat.le_of_ble_eq_true rfl⟩ ⟨by first | exact Nat.le_of_ble_eq_true rfl | (show _ ≤ 2; omega), by first | exact Nat.le_of_ble_eq_true rfl | (show _ ≤ 160; omega)⟩ rfl hl.1 rfl (Nat.le_of_ble_eq_true rfl) dX10_share_31 hK hI (fun r G1 H1 L1 hp hI => ?_)
        obtain ⟨v, rfl, ev, hGe⟩ := hp
        subst ev
        rw [hGe] at hI
        refine W.eq (g2 := F0 mI 34 ls [.int 1]) rfl ?_
        have e9 : sp_share A s f = (1, (u2 A 0 (ix s) (A 0 (ix f)))) := by
          simp only [sp_share, u2_hit, rfi, rfj, wHv, wRw, wSl, h_1, h_3, h_5, eqb_00, eqb_10, eqb_20, eqb_30, eqb_50, eqb_11, eqb_21, reduceIte, Bool.false_eq_true, not_true_eq_false, not_false_eq_true, ite_self]
        exact g_iret hx hb hr hlocks hI ⟨_, rfl, by rw [e9], aa, nn, by omega, by rw [e9]; exact hS⟩ dX10_share_34 (by omega) (by omega)
    · rw [hGe] at hI
      refine W.eq (g2 := F0 mI 11 ls [.int 0]) rfl ?_
      refine lv_if_ne (tgt := 16) hx hb dX10_share_11 (by decide) (fun c_9 => absurd c_9 (by decide)) (fun _ => ?_)
      refine lv_iconst (v := -1) hx hb dX10_share_14 (by decide) ?_
      have e9 : sp_share A s f = ((-1), A) := by
        simp only [sp_share, u2_hit, rfi, rfj, wHv, wRw, wSl, h_1, h_3, eqb_00, eqb_10, eqb_20, eqb_30, eqb_50, eqb_11, eqb_21, reduceIte, Bool.false_eq_true, not_true_eq_false, not_false_eq_true, ite_self]
      exact g_iret hx hb hr hlocks hI ⟨_, rfl, by rw [e9], aa, nn, by omega, by rw [e9]; exact hS⟩ dX10_share_15 (by omega) (by omega)
  · rw [hGe] at hI
    refine W.eq (g2 := F0 mI 4 ls [.int 0]) rfl ?_
    refine lv_if_eq (tgt := 14) hx hb dX10_share_4 (by decide) (fun _ => ?_) (fun c_10 => absurd c_10 (by decide))
    refine lv_iconst (v := -1) hx hb dX10_share_14 (by decide) ?_
    have e9 : sp_share A s f = ((-1), A) := by
      simp only [sp_share, u2_hit, rfi, rfj, wHv, wRw, wSl, h_1, eqb_00, eqb_10, eqb_20, eqb_30, eqb_50, eqb_11, eqb_21, reduceIte, Bool.false_eq_true, not_true_eq_false, not_false_eq_true, ite_self]
    exact g_iret hx hb hr hlocks hI ⟨_, rfl, by rw [e9], aa, nn, by omega, by rw [e9]; exact hS⟩ dX10_share_15 (by omega) (by omega)
set_option maxHeartbeats 4000000 in
set_option maxRecDepth 100000 in
theorem c_X10_clear (l : Launch) (E : gE) (b0 : Nat) (G : gG) (x : Nat) (aa : Nat → Nat) (A : gA) (nn : Nat) (hS : SW E x aa A nn G) (hn : nn < 600) (s : Int32) : gM l yX10_clear cX10_clear 3 (some .int) 5 2 160 E b0 G [.ref x, .int s] (pI (fun v9 G1 => v9 = (sp_clear A s).1 ∧ ∃ aa1 n1, n1 ≤ nn + 1 ∧ SW E x aa1 (sp_clear A s).2 n1 G1)) := by
  obtain rfl : aa 0 = x := hS.2.2.1
  refine gM.of (by decide +kernel) (Nat.le_of_ble_eq_true rfl) ?_
  intro pP eP sP mI bP meth cP ls hx hb hr hml hown hlocks hnm hts hK hI hl
  have hl : lv_has ls 3 [(0, .ref (aa 0)), (1, .int s)] := hl
  have hown : sP.vm.findClass RX10 = some mI.cls := hown
  refine lv_iload_n hx hb dX10_clear_0 rfl (lv_at hl 1 rfl) ?_
  refine g_callS (own := RX10) (index := 23) (n := 1) hx hb hml hown hts (c_X10_isShelf l E b0 _ s) m_ml_X10_23 m_st_X10_isShelf m_in_X10 m_co_X10_isShelf (by decide +kernel) ⟨Nat.le_of_ble_eq_true rfl, Nat.le_of_ble_eq_true rfl⟩ ⟨by first | exact Nat.le_of_ble_eq_true rfl | (show _ ≤ 2; omega), by first | exact Nat.le_of_ble_eq_true rfl | (show _ ≤ 160; omega)⟩ rfl hl.1 rfl (Nat.le_of_ble_eq_true rfl) dX10_clear_1 hK hI (fun r G1 H1 L1 hp hI => ?_)
  obtain ⟨v, rfl, hGe, ⟨h_1, rfl⟩ | ⟨h_1, rfl⟩⟩ := hp
  · rw [hGe] at hI
    refine W.eq (g2 := F0 mI 4 ls [.int 1]) rfl ?_
    refine lv_if_ne (tgt := 9) hx hb dX10_clear_4 (by decide) (fun _ => ?_) (fun c_2 => absurd c_2 (by decide))
    refine lv_aload_n hx hb dX10_clear_9 rfl (lv_at hl 0 rfl) ?_
    refine g_get (index := 11) (ci := 8) hx hb hts inlX10 hown hK hI hS.2.2.2.1 rfl 0 (by decide) m_fl_X10_11 (fun _ h9 => h9) rfl dX10_clear_10 ?_
    refine lv_iload_n hx hb dX10_clear_13 rfl (lv_at hl 1 rfl) ?_
    rcases btf (eqb (A 0 (ix s)) 0) with h_3 | h_3
    · have z_4 := fun lo hi => fit_0 (A := A) lo hi h_3
      have t_5 : tv nn (A 0 (ix s)) := (hS.tsh h_1)
      refine g_aald hx hb hK hI 1 hS.2.2.2.2.1 rfl (sh_in h_1) dX10_clear_14 ?_
      refine W.eq (g2 := F0 mI 15 ls [.null]) (by rw [show shf aa A (Int32.toNatClampNeg s) = adr aa (A 0 (ix s)) from shf_at h_1, adr_n h_3]; rfl) ?_
      refine lv_astore_nN (lv' := [(2, .null), (0, .ref (aa 0)), (1, .int s)]) hx hb dX10_clear_15 rfl hl (by decide) rfl (fun ls hl => ?_)
      refine lv_aload_n hx hb dX10_clear_16 rfl (lv_at hl 1 rfl) ?_
      refine g_get (index := 11) (ci := 8) hx hb hts inlX10 hown hK hI hS.2.2.2.1 rfl 0 (by decide) m_fl_X10_11 (fun _ h9 => h9) rfl dX10_clear_17 ?_
      refine lv_iload_n hx hb dX10_clear_20 rfl (lv_at hl 2 rfl) ?_
      refine lv_anull hx hb dX10_clear_21 ?_
      refine W.eq (g2 := F0 mI 22 ls [va_rf (adr aa 0), .int s, .ref (aa 1)]) (by rw [adr_n eqb_00]; rfl) ?_
      refine g_aast (o := adr aa 0) hx hb hK hI 1 hS.2.2.2.2.1 rfl (hS.any hn hK hI ⟨0, by omega, nI_0.symm⟩) (sh_in h_1) dX10_clear_22 (fun H1 L1 hI => ?_)
      have hS := hS.p0 (ix s) (sh_lt h_1) (w := 0) ⟨0, by omega, nI_0.symm⟩
      refine W.eq (g2 := F0 mI 23 ls []) rfl ?_
      refine lv_aload_nN hx hb dX10_clear_23 rfl (lv_at hl 0 rfl) ?_
      refine g_callS (own := RX10) (index := 42) (n := 1) hx hb hml hown hts (c_X10_oneIfThing_n l E b0 _) m_ml_X10_42 m_st_X10_oneIfThing m_in_X10 m_co_X10_oneIfThing (by decide +kernel) ⟨Nat.le_of_ble_eq_true rfl, Nat.le_of_ble_eq_true rfl⟩ ⟨by first | exact Nat.le_of_ble_eq_true rfl | (show _ ≤ 2; omega), by first | exact Nat.le_of_ble_eq_true rfl | (show _ ≤ 160; omega)⟩ rfl hl.1 rfl (Nat.le_of_ble_eq_true rfl) dX10_clear_24 hK hI (fun r G1 H1 L1 hp hI => ?_)
      obtain ⟨v, rfl, ev, hGe⟩ := hp
      subst ev
      rw [hGe] at hI
      refine W.eq (g2 := F0 mI 27 ls [.int 0]) rfl ?_
      have e9 : sp_clear A s = (0, (u2 A 0 (ix s) 0)) := by
        simp only [sp_clear, rfi, rfj, wHv, wRw, wSl, h_1, h_3, z_4, eqb_00, eqb_10, eqb_20, eqb_30, eqb_50, eqb_11, eqb_21, reduceIte, Bool.false_eq_true, not_true_eq_false, not_false_eq_true, ite_self]
      exact g_iret hx hb hr hlocks hI ⟨_, rfl, by rw [e9], aa, nn, by omega, by rw [e9]; exact hS⟩ dX10_clear_27 (by omega) (by omega)
    · have _ := 0
      have t_6 : tv nn (A 0 (ix s)) := (hS.tsh h_1)
      refine g_aald hx hb hK hI 1 hS.2.2.2.2.1 rfl (sh_in h_1) dX10_clear_14 ?_
      refine W.eq (g2 := F0 mI 15 ls [.ref (aa (4 * ix (A 0 (ix s))))]) (by rw [show shf aa A (Int32.toNatClampNeg s) = adr aa (A 0 (ix s)) from shf_at h_1, adr_s h_3]; rfl) ?_
      refine lv_astore_n (lv' := [(2, .ref (aa (4 * ix (A 0 (ix s))))), (0, .ref (aa 0)), (1, .int s)]) hx hb dX10_clear_15 rfl hl (by decide) rfl (fun ls hl => ?_)
      refine lv_aload_n hx hb dX10_clear_16 rfl (lv_at hl 1 rfl) ?_
      refine g_get (index := 11) (ci := 8) hx hb hts inlX10 hown hK hI hS.2.2.2.1 rfl 0 (by decide) m_fl_X10_11 (fun _ h9 => h9) rfl dX10_clear_17 ?_
      refine lv_iload_n hx hb dX10_clear_20 rfl (lv_at hl 2 rfl) ?_
      refine lv_anull hx hb dX10_clear_21 ?_
      refine W.eq (g2 := F0 mI 22 ls [va_rf (adr aa 0), .int s, .ref (aa 1)]) (by rw [adr_n eqb_00]; rfl) ?_
      refine g_aast (o := adr aa 0) hx hb hK hI 1 hS.2.2.2.2.1 rfl (hS.any hn hK hI ⟨0, by omega, nI_0.symm⟩) (sh_in h_1) dX10_clear_22 (fun H1 L1 hI => ?_)
      have hS := hS.p0 (ix s) (sh_lt h_1) (w := 0) ⟨0, by omega, nI_0.symm⟩
      refine W.eq (g2 := F0 mI 23 ls []) rfl ?_
      refine lv_aload_n hx hb dX10_clear_23 rfl (lv_at hl 0 rfl) ?_
      refine g_callS (own := RX10) (index := 42) (n := 1) hx hb hml hown hts (c_X10_oneIfThing_r l E b0 _ (aa (4 * ix (A 0 (ix s))))) m_ml_X10_42 m_st_X10_oneIfThing m_in_X10 m_co_X10_oneIfThing (by decide +kernel) ⟨Nat.le_of_ble_eq_true rfl, Nat.le_of_ble_eq_true rfl⟩ ⟨by first | exact Nat.le_of_ble_eq_true rfl | (show _ ≤ 2; omega), by first | exact Nat.le_of_ble_eq_true rfl | (show _ ≤ 160; omega)⟩ rfl hl.1 rfl (Nat.le_of_ble_eq_true rfl) dX10_clear_24 hK hI (fun r G1 H1 L1 hp hI => ?_)
      obtain ⟨v, rfl, ev, hGe⟩ := hp
      subst ev
      rw [hGe] at hI
      refine W.eq (g2 := F0 mI 27 ls [.int 1]) rfl ?_
      have e9 : sp_clear A s = (1, (u2 A 0 (ix s) 0)) := by
        simp only [sp_clear, rfi, rfj, wHv, wRw, wSl, h_1, h_3, eqb_00, eqb_10, eqb_20, eqb_30, eqb_50, eqb_11, eqb_21, reduceIte, Bool.false_eq_true, not_true_eq_false, not_false_eq_true, ite_self]
      exact g_iret hx hb hr hlocks hI ⟨_, rfl, by rw [e9], aa, nn, by omega, by rw [e9]; exact hS⟩ dX10_clear_27 (by omega) (by omega)
  · rw [hGe] at hI
    refine W.eq (g2 := F0 mI 4 ls [.int 0]) rfl ?_
    refine lv_if_ne (tgt := 9) hx hb dX10_clear_4 (by decide) (fun c_7 => absurd c_7 (by decide)) (fun _ => ?_)
    refine lv_iconst (v := -1) hx hb dX10_clear_7 (by decide) ?_
    have e9 : sp_clear A s = ((-1), A) := by
      simp only [sp_clear, rfi, rfj, wHv, wRw, wSl, h_1, eqb_00, eqb_10, eqb_20, eqb_30, eqb_50, eqb_11, eqb_21, reduceIte, Bool.false_eq_true, not_true_eq_false, not_false_eq_true, ite_self]
    exact g_iret hx hb hr hlocks hI ⟨_, rfl, by rw [e9], aa, nn, by omega, by rw [e9]; exact hS⟩ dX10_clear_8 (by omega) (by omega)
set_option maxHeartbeats 4000000 in
set_option maxRecDepth 100000 in
theorem c_X10_strip (l : Launch) (E : gE) (b0 : Nat) (G : gG) (x : Nat) (aa : Nat → Nat) (A : gA) (nn : Nat) (hS : SW E x aa A nn G) (hn : nn < 600) (s : Int32) : gM l yX10_strip cX10_strip 4 (some .int) 5 2 160 E b0 G [.ref x, .int s] (pI (fun v9 G1 => v9 = (sp_strip A s).1 ∧ ∃ aa1 n1, n1 ≤ nn + 1 ∧ SW E x aa1 (sp_strip A s).2 n1 G1)) := by
  obtain rfl : aa 0 = x := hS.2.2.1
  refine gM.of (by decide +kernel) (Nat.le_of_ble_eq_true rfl) ?_
  intro pP eP sP mI bP meth cP ls hx hb hr hml hown hlocks hnm hts hK hI hl
  have hl : lv_has ls 4 [(0, .ref (aa 0)), (1, .int s)] := hl
  have hown : sP.vm.findClass RX10 = some mI.cls := hown
  refine lv_iload_n hx hb dX10_strip_0 rfl (lv_at hl 1 rfl) ?_
  refine g_callS (own := RX10) (index := 23) (n := 1) hx hb hml hown hts (c_X10_isShelf l E b0 _ s) m_ml_X10_23 m_st_X10_isShelf m_in_X10 m_co_X10_isShelf (by decide +kernel) ⟨Nat.le_of_ble_eq_true rfl, Nat.le_of_ble_eq_true rfl⟩ ⟨by first | exact Nat.le_of_ble_eq_true rfl | (show _ ≤ 2; omega), by first | exact Nat.le_of_ble_eq_true rfl | (show _ ≤ 160; omega)⟩ rfl hl.1 rfl (Nat.le_of_ble_eq_true rfl) dX10_strip_1 hK hI (fun r G1 H1 L1 hp hI => ?_)
  obtain ⟨v, rfl, hGe, ⟨h_1, rfl⟩ | ⟨h_1, rfl⟩⟩ := hp
  · rw [hGe] at hI
    refine W.eq (g2 := F0 mI 4 ls [.int 1]) rfl ?_
    refine lv_if_ne (tgt := 9) hx hb dX10_strip_4 (by decide) (fun _ => ?_) (fun c_2 => absurd c_2 (by decide))
    refine lv_aload_n hx hb dX10_strip_9 rfl (lv_at hl 0 rfl) ?_
    refine g_get (index := 11) (ci := 8) hx hb hts inlX10 hown hK hI hS.2.2.2.1 rfl 0 (by decide) m_fl_X10_11 (fun _ h9 => h9) rfl dX10_strip_10 ?_
    refine lv_iload_n hx hb dX10_strip_13 rfl (lv_at hl 1 rfl) ?_
    rcases btf (eqb (A 0 (ix s)) 0) with h_3 | h_3
    · have z_4 := fun lo hi => fit_0 (A := A) lo hi h_3
      have t_5 : tv nn (A 0 (ix s)) := (hS.tsh h_1)
      refine g_aald hx hb hK hI 1 hS.2.2.2.2.1 rfl (sh_in h_1) dX10_strip_14 ?_
      refine W.eq (g2 := F0 mI 15 ls [.null]) (by rw [show shf aa A (Int32.toNatClampNeg s) = adr aa (A 0 (ix s)) from shf_at h_1, adr_n h_3]; rfl) ?_
      refine g_callS (own := RX10) (index := 54) (n := 1) hx hb hml hown hts (c_X10_asHive_n l E b0 _) m_ml_X10_54 m_st_X10_asHive m_in_X10 m_co_X10_asHive (by decide +kernel) ⟨Nat.le_of_ble_eq_true rfl, Nat.le_of_ble_eq_true rfl⟩ ⟨by first | exact Nat.le_of_ble_eq_true rfl | (show _ ≤ 2; omega), by first | exact Nat.le_of_ble_eq_true rfl | (show _ ≤ 160; omega)⟩ rfl hl.1 rfl (Nat.le_of_ble_eq_true rfl) dX10_strip_15 hK hI (fun r G1 H1 L1 hp hI => ?_)
      obtain ⟨v, rfl, ev, hGe⟩ := hp
      subst ev
      rw [hGe] at hI
      refine W.eq (g2 := F0 mI 18 ls [.null]) rfl ?_
      refine lv_astore_nN (lv' := [(2, .null), (0, .ref (aa 0)), (1, .int s)]) hx hb dX10_strip_18 rfl hl (by decide) rfl (fun ls hl => ?_)
      refine lv_aload_nN hx hb dX10_strip_19 rfl (lv_at hl 0 rfl) ?_
      refine lv_ifnullN (tgt := 30) hx hb dX10_strip_20 (by decide) ?_
      refine lv_aload_n hx hb dX10_strip_30 rfl (lv_at hl 1 rfl) ?_
      refine lv_aload_n hx hb dX10_strip_31 rfl (lv_at hl 1 rfl) ?_
      refine g_get (index := 11) (ci := 8) hx hb hts inlX10 hown hK hI hS.2.2.2.1 rfl 0 (by decide) m_fl_X10_11 (fun _ h9 => h9) rfl dX10_strip_32 ?_
      refine lv_iload_n hx hb dX10_strip_35 rfl (lv_at hl 2 rfl) ?_
      refine g_aald hx hb hK hI 1 hS.2.2.2.2.1 rfl (sh_in h_1) dX10_strip_36 ?_
      refine W.eq (g2 := F0 mI 37 ls [.null, .ref (aa 0)]) (by rw [show shf aa A (Int32.toNatClampNeg s) = adr aa (A 0 (ix s)) from shf_at h_1, adr_n h_3]; rfl) ?_
      refine g_callS (own := RX10) (index := 66) (n := 1) hx hb hml hown hts (c_X10_castOrNull_n l E b0 _) m_ml_X10_66 m_st_X10_castOrNull m_in_X10 m_co_X10_castOrNull (by decide +kernel) ⟨Nat.le_of_ble_eq_true rfl, Nat.le_of_ble_eq_true rfl⟩ ⟨by first | exact Nat.le_of_ble_eq_true rfl | (show _ ≤ 2; omega), by first | exact Nat.le_of_ble_eq_true rfl | (show _ ≤ 160; omega)⟩ rfl hl.1 rfl (Nat.le_of_ble_eq_true rfl) dX10_strip_37 hK hI (fun r G1 H1 L1 hp hI => ?_)
      obtain ⟨v, rfl, ev, hGe⟩ := hp
      subst ev
      rw [hGe] at hI
      refine W.eq (g2 := F0 mI 40 ls [.int 1, .ref (aa 0)]) rfl ?_
      refine g_callV (own := RX10) (index := 31) (n := 1) hx hb hml hown hts (c_X10_refuse l E b0 _ _ aa _ nn hS hn 1 (vp_in_iff.mpr (by decide))) hS.2.2.2.1 rfl rfl m_ml_X10_31 m_im_X10_refuse m_se_X10_X10_refuse_X10_refuse m_in_X10 m_co_X10_refuse (by decide +kernel) ⟨Nat.le_of_ble_eq_true rfl, Nat.le_of_ble_eq_true rfl⟩ ⟨by first | exact Nat.le_of_ble_eq_true rfl | (show _ ≤ 2; omega), by first | exact Nat.le_of_ble_eq_true rfl | (show _ ≤ 160; omega)⟩ rfl hl.1 rfl (Nat.le_of_ble_eq_true rfl) dX10_strip_40 hK hI (fun r G1 H1 L1 hp hI => ?_)
      obtain ⟨v, rfl, ev, hS⟩ := hp
      subst ev
      refine W.eq (g2 := F0 mI 43 ls [.int (-10 - 1)]) rfl ?_
      have e9 : sp_strip A s = ((-10 - 1), (rfs A 1)) := by
        simp only [sp_strip, rfi, rfj, wHv, wRw, wSl, h_1, h_3, z_4, eqb_00, eqb_10, eqb_20, eqb_30, eqb_50, eqb_11, eqb_21, reduceIte, Bool.false_eq_true, not_true_eq_false, not_false_eq_true, ite_self]
      exact g_iret hx hb hr hlocks hI ⟨_, rfl, by rw [e9], aa, nn, by omega, by rw [e9]; exact hS⟩ dX10_strip_43 (by omega) (by omega)
    · have _ := 0
      have t_6 : tv nn (A 0 (ix s)) := (hS.tsh h_1)
      refine g_aald hx hb hK hI 1 hS.2.2.2.2.1 rfl (sh_in h_1) dX10_strip_14 ?_
      refine W.eq (g2 := F0 mI 15 ls [.ref (aa (4 * ix (A 0 (ix s))))]) (by rw [show shf aa A (Int32.toNatClampNeg s) = adr aa (A 0 (ix s)) from shf_at h_1, adr_s h_3]; rfl) ?_
      rcases btf (fit A (A 0 (ix s)) 6 7) with h_7 | h_7
      · have _ := 0
        refine g_callS (own := RX10) (index := 54) (n := 1) hx hb hml hown hts (c_X10_asHive_y l E b0 _ (aa (4 * ix (A 0 (ix s)))) _ _ (hS.at hn t_6 h_3) (cix_in _) (hS.gs hn t_6 h_3 5 (by decide) h_7)) m_ml_X10_54 m_st_X10_asHive m_in_X10 m_co_X10_asHive (by decide +kernel) ⟨Nat.le_of_ble_eq_true rfl, Nat.le_of_ble_eq_true rfl⟩ ⟨by first | exact Nat.le_of_ble_eq_true rfl | (show _ ≤ 2; omega), by first | exact Nat.le_of_ble_eq_true rfl | (show _ ≤ 160; omega)⟩ rfl hl.1 rfl (Nat.le_of_ble_eq_true rfl) dX10_strip_15 hK hI (fun r G1 H1 L1 hp hI => ?_)
        obtain ⟨v, rfl, ev, hGe⟩ := hp
        subst ev
        rw [hGe] at hI
        refine W.eq (g2 := F0 mI 18 ls [.ref (aa (4 * ix (A 0 (ix s))))]) rfl ?_
        refine lv_astore_n (lv' := [(2, .ref (aa (4 * ix (A 0 (ix s))))), (0, .ref (aa 0)), (1, .int s)]) hx hb dX10_strip_18 rfl hl (by decide) rfl (fun ls hl => ?_)
        refine lv_aload_n hx hb dX10_strip_19 rfl (lv_at hl 0 rfl) ?_
        refine lv_ifnull hx hb dX10_strip_20 ?_
        refine lv_aload_n hx hb dX10_strip_23 rfl (lv_at hl 0 rfl) ?_
        rcases Classical.em ((A 5 (ix (A 0 (ix s)))) < 0) with h_8 | h_8
        · have _ := 0
          refine g_get (index := 62) (ci := 5) hx hb hts inlX5 hown hK hI (hS.hv hn t_6 h_3 h_7) rfl 1 (by decide) m_fl_X10_62 (fun _ h9 => h9) rfl dX10_strip_24 ?_
          refine W.eq (g2 := F0 mI 27 ls [.null]) (by rw [rwo_n h_8]; rfl) ?_
          refine lv_ifnonnullN hx hb dX10_strip_27 ?_
          refine lv_aload_n hx hb dX10_strip_30 rfl (lv_at hl 1 rfl) ?_
          refine lv_aload_n hx hb dX10_strip_31 rfl (lv_at hl 1 rfl) ?_
          refine g_get (index := 11) (ci := 8) hx hb hts inlX10 hown hK hI hS.2.2.2.1 rfl 0 (by decide) m_fl_X10_11 (fun _ h9 => h9) rfl dX10_strip_32 ?_
          refine lv_iload_n hx hb dX10_strip_35 rfl (lv_at hl 2 rfl) ?_
          refine g_aald hx hb hK hI 1 hS.2.2.2.2.1 rfl (sh_in h_1) dX10_strip_36 ?_
          refine W.eq (g2 := F0 mI 37 ls [.ref (aa (4 * ix (A 0 (ix s)))), .ref (aa 0)]) (by rw [show shf aa A (Int32.toNatClampNeg s) = adr aa (A 0 (ix s)) from shf_at h_1, adr_s h_3]; rfl) ?_
          refine g_callS (own := RX10) (index := 66) (n := 1) hx hb hml hown hts (c_X10_castOrNull_y l E b0 _ (aa (4 * ix (A 0 (ix s)))) _ _ (hS.at hn t_6 h_3) (cix_in _) (hS.gs hn t_6 h_3 5 (by decide) h_7)) m_ml_X10_66 m_st_X10_castOrNull m_in_X10 m_co_X10_castOrNull (by decide +kernel) ⟨Nat.le_of_ble_eq_true rfl, Nat.le_of_ble_eq_true rfl⟩ ⟨by first | exact Nat.le_of_ble_eq_true rfl | (show _ ≤ 2; omega), by first | exact Nat.le_of_ble_eq_true rfl | (show _ ≤ 160; omega)⟩ rfl hl.1 rfl (Nat.le_of_ble_eq_true rfl) dX10_strip_37 hK hI (fun r G1 H1 L1 hp hI => ?_)
          obtain ⟨v, rfl, ev, hGe⟩ := hp
          subst ev
          rw [hGe] at hI
          refine W.eq (g2 := F0 mI 40 ls [.int 1, .ref (aa 0)]) rfl ?_
          refine g_callV (own := RX10) (index := 31) (n := 1) hx hb hml hown hts (c_X10_refuse l E b0 _ _ aa _ nn hS hn 1 (vp_in_iff.mpr (by decide))) hS.2.2.2.1 rfl rfl m_ml_X10_31 m_im_X10_refuse m_se_X10_X10_refuse_X10_refuse m_in_X10 m_co_X10_refuse (by decide +kernel) ⟨Nat.le_of_ble_eq_true rfl, Nat.le_of_ble_eq_true rfl⟩ ⟨by first | exact Nat.le_of_ble_eq_true rfl | (show _ ≤ 2; omega), by first | exact Nat.le_of_ble_eq_true rfl | (show _ ≤ 160; omega)⟩ rfl hl.1 rfl (Nat.le_of_ble_eq_true rfl) dX10_strip_40 hK hI (fun r G1 H1 L1 hp hI => ?_)
          obtain ⟨v, rfl, ev, hS⟩ := hp
          subst ev
          refine W.eq (g2 := F0 mI 43 ls [.int (-10 - 1)]) rfl ?_
          have e9 : sp_strip A s = ((-10 - 1), (rfs A 1)) := by
            simp only [sp_strip, rfi, rfj, wHv, wRw, wSl, h_1, h_3, h_7, h_8, eqb_00, eqb_10, eqb_20, eqb_30, eqb_50, eqb_11, eqb_21, reduceIte, Bool.false_eq_true, not_true_eq_false, not_false_eq_true, ite_self]
          exact g_iret hx hb hr hlocks hI ⟨_, rfl, by rw [e9], aa, nn, by omega, by rw [e9]; exact hS⟩ dX10_strip_43 (by omega) (by omega)
        · have _ := 0
          refine g_get (index := 62) (ci := 5) hx hb hts inlX5 hown hK hI (hS.hv hn t_6 h_3 h_7) rfl 1 (by decide) m_fl_X10_62 (fun _ h9 => h9) rfl dX10_strip_24 ?_
          refine W.eq (g2 := F0 mI 27 ls [.ref (aa (4 * ix (A 0 (ix s)) + 1))]) (by rw [rwo_s h_8]; rfl) ?_
          refine lv_ifnonnull (tgt := 44) hx hb dX10_strip_27 (by decide) ?_
          refine lv_aload_n hx hb dX10_strip_44 rfl (lv_at hl 0 rfl) ?_
          refine g_get (index := 62) (ci := 5) hx hb hts inlX5 hown hK hI (hS.hv hn t_6 h_3 h_7) rfl 1 (by decide) m_fl_X10_62 (fun _ h9 => h9) rfl dX10_strip_45 ?_
          refine W.eq (g2 := F0 mI 48 ls [.ref (aa (4 * ix (A 0 (ix s)) + 1))]) (by rw [rwo_s h_8]; rfl) ?_
          refine g_alen hx hb hK hI 2 (hS.rw' hn t_6 h_3 h_8) rfl (nIix h_8) dX10_strip_48 ?_
          refine lv_istore_n (lv' := [(3, .int (A 5 (ix (A 0 (ix s))))), (2, .ref (aa (4 * ix (A 0 (ix s))))), (0, .ref (aa 0)), (1, .int s)]) hx hb dX10_strip_49 rfl hl (by decide) rfl (fun ls hl => ?_)
          refine lv_aload_n hx hb dX10_strip_50 rfl (lv_at hl 1 rfl) ?_
          refine lv_anull hx hb dX10_strip_51 ?_
          refine g_put (index := 62) (ci := 5) hx hb hts inlX5 tyX5 tyX5_ok nmX5 hown hK hI (hS.hv hn t_6 h_3 h_7) rfl 1 (by decide) m_fl_X10_62 (fun _ h9 => h9) rfl rfl rfl (Nat.le_of_ble_eq_true rfl) dX10_strip_52 (fun H1 L1 hI => ?_)
          have hS := SW.p5 hS (ix (A 0 (ix s))) (t_6.pos hn h_3) (t_6.ixle hn).1 (p5y (by rw [← fit_so h_3]; exact h_7) (hS.so hn t_6 h_3))
          refine W.eq (g2 := F0 mI 55 ls []) rfl ?_
          refine lv_iload_n hx hb dX10_strip_55 rfl (lv_at hl 0 rfl) ?_
          have e9 : sp_strip A s = ((A 5 (ix (A 0 (ix s)))), (u2 A 5 (ix (A 0 (ix s))) (-1))) := by
            simp only [sp_strip, rfi, rfj, wHv, wRw, wSl, h_1, h_3, h_7, h_8, eqb_00, eqb_10, eqb_20, eqb_30, eqb_50, eqb_11, eqb_21, reduceIte, Bool.false_eq_true, not_true_eq_false, not_false_eq_true, ite_self]
          exact g_iret hx hb hr hlocks hI ⟨_, rfl, by rw [e9], aa, nn, by omega, by rw [e9]; exact hS⟩ dX10_strip_56 (by omega) (by omega)
      · have _ := 0
        refine g_callS (own := RX10) (index := 54) (n := 1) hx hb hml hown hts (c_X10_asHive_f l E b0 _ (aa (4 * ix (A 0 (ix s)))) _ _ (hS.at hn t_6 h_3) (cix_in _) (hS.gs hn t_6 h_3 5 (by decide) h_7)) m_ml_X10_54 m_st_X10_asHive m_in_X10 m_co_X10_asHive (by decide +kernel) ⟨Nat.le_of_ble_eq_true rfl, Nat.le_of_ble_eq_true rfl⟩ ⟨by first | exact Nat.le_of_ble_eq_true rfl | (show _ ≤ 2; omega), by first | exact Nat.le_of_ble_eq_true rfl | (show _ ≤ 160; omega)⟩ rfl hl.1 rfl (Nat.le_of_ble_eq_true rfl) dX10_strip_15 hK hI (fun r G1 H1 L1 hp hI => ?_)
        obtain ⟨v, rfl, ev, hGe⟩ := hp
        subst ev
        rw [hGe] at hI
        refine W.eq (g2 := F0 mI 18 ls [.null]) rfl ?_
        refine lv_astore_nN (lv' := [(2, .null), (0, .ref (aa 0)), (1, .int s)]) hx hb dX10_strip_18 rfl hl (by decide) rfl (fun ls hl => ?_)
        refine lv_aload_nN hx hb dX10_strip_19 rfl (lv_at hl 0 rfl) ?_
        refine lv_ifnullN (tgt := 30) hx hb dX10_strip_20 (by decide) ?_
        refine lv_aload_n hx hb dX10_strip_30 rfl (lv_at hl 1 rfl) ?_
        refine lv_aload_n hx hb dX10_strip_31 rfl (lv_at hl 1 rfl) ?_
        refine g_get (index := 11) (ci := 8) hx hb hts inlX10 hown hK hI hS.2.2.2.1 rfl 0 (by decide) m_fl_X10_11 (fun _ h9 => h9) rfl dX10_strip_32 ?_
        refine lv_iload_n hx hb dX10_strip_35 rfl (lv_at hl 2 rfl) ?_
        refine g_aald hx hb hK hI 1 hS.2.2.2.2.1 rfl (sh_in h_1) dX10_strip_36 ?_
        refine W.eq (g2 := F0 mI 37 ls [.ref (aa (4 * ix (A 0 (ix s)))), .ref (aa 0)]) (by rw [show shf aa A (Int32.toNatClampNeg s) = adr aa (A 0 (ix s)) from shf_at h_1, adr_s h_3]; rfl) ?_
        refine g_callS (own := RX10) (index := 66) (n := 1) hx hb hml hown hts (c_X10_castOrNull_f l E b0 _ (aa (4 * ix (A 0 (ix s)))) _ _ (hS.at hn t_6 h_3) (cix_in _) (hS.gs hn t_6 h_3 5 (by decide) h_7)) m_ml_X10_66 m_st_X10_castOrNull m_in_X10 m_co_X10_castOrNull (by decide +kernel) ⟨Nat.le_of_ble_eq_true rfl, Nat.le_of_ble_eq_true rfl⟩ ⟨by first | exact Nat.le_of_ble_eq_true rfl | (show _ ≤ 2; omega), by first | exact Nat.le_of_ble_eq_true rfl | (show _ ≤ 160; omega)⟩ rfl hl.1 rfl (Nat.le_of_ble_eq_true rfl) dX10_strip_37 hK hI (fun r G1 H1 L1 hp hI => ?_)
        obtain ⟨v, rfl, ev, hGe⟩ := hp
        subst ev
        rw [hGe] at hI
        refine W.eq (g2 := F0 mI 40 ls [.int 5, .ref (aa 0)]) rfl ?_
        refine g_callV (own := RX10) (index := 31) (n := 1) hx hb hml hown hts (c_X10_refuse l E b0 _ _ aa _ nn hS hn 5 (vp_in_iff.mpr (by decide))) hS.2.2.2.1 rfl rfl m_ml_X10_31 m_im_X10_refuse m_se_X10_X10_refuse_X10_refuse m_in_X10 m_co_X10_refuse (by decide +kernel) ⟨Nat.le_of_ble_eq_true rfl, Nat.le_of_ble_eq_true rfl⟩ ⟨by first | exact Nat.le_of_ble_eq_true rfl | (show _ ≤ 2; omega), by first | exact Nat.le_of_ble_eq_true rfl | (show _ ≤ 160; omega)⟩ rfl hl.1 rfl (Nat.le_of_ble_eq_true rfl) dX10_strip_40 hK hI (fun r G1 H1 L1 hp hI => ?_)
        obtain ⟨v, rfl, ev, hS⟩ := hp
        subst ev
        refine W.eq (g2 := F0 mI 43 ls [.int (-10 - 5)]) rfl ?_
        have e9 : sp_strip A s = ((-10 - 5), (rfs A 5)) := by
          simp only [sp_strip, rfi, rfj, wHv, wRw, wSl, h_1, h_3, h_7, eqb_00, eqb_10, eqb_20, eqb_30, eqb_50, eqb_11, eqb_21, reduceIte, Bool.false_eq_true, not_true_eq_false, not_false_eq_true, ite_self]
        exact g_iret hx hb hr hlocks hI ⟨_, rfl, by rw [e9], aa, nn, by omega, by rw [e9]; exact hS⟩ dX10_strip_43 (by omega) (by omega)
  · rw [hGe] at hI
    refine W.eq (g2 := F0 mI 4 ls [.int 0]) rfl ?_
    refine lv_if_ne (tgt := 9) hx hb dX10_strip_4 (by decide) (fun c_9 => absurd c_9 (by decide)) (fun _ => ?_)
    refine lv_iconst (v := -1) hx hb dX10_strip_7 (by decide) ?_
    have e9 : sp_strip A s = ((-1), A) := by
      simp only [sp_strip, rfi, rfj, wHv, wRw, wSl, h_1, eqb_00, eqb_10, eqb_20, eqb_30, eqb_50, eqb_11, eqb_21, reduceIte, Bool.false_eq_true, not_true_eq_false, not_false_eq_true, ite_self]
    exact g_iret hx hb hr hlocks hI ⟨_, rfl, by rw [e9], aa, nn, by omega, by rw [e9]; exact hS⟩ dX10_strip_8 (by omega) (by omega)
