theorem so8 {so : Int32} (h : ∃ k, k ≤ 7 ∧ so = nI k) : eqb so 0 = true ∨ eqb so 1 = true ∨ eqb so 2 = true ∨ eqb so 3 = true ∨ eqb so 4 = true ∨ eqb so 5 = true ∨ eqb so 6 = true ∨ eqb so 7 = true := by
  rcases so7 h with e | e | e | e | e | e | e | e <;> rw [e] <;> decide
theorem so_6 {so : Int32} (h : inb so 6 7 = true) (h7 : eqb so 7 = false) : so = 6 := by
  rcases inb_2 (by decide) h with q | q
  · exact eqb_i.mp q
  · rw [q] at h7; cases h7
theorem so_n6 {so : Int32} (h7 : eqb so 7 = true) : ¬ so = 6 := by
  rw [eqb_i.mp h7]; decide
theorem cnt_in2 {w : Int32} (h1 : ¬ w < 0) (h2 : ¬ 7 < w) (h3 : ¬ w = 7) : vp_in w 7 := cnt_in (by simp [inb, h1, h2]) h3
set_option maxHeartbeats 4000000 in
set_option maxRecDepth 100000 in
theorem c_X10_put (l : Launch) (E : gE) (b0 : Nat) (G : gG) (x : Nat) (aa : Nat → Nat) (A : gA) (nn : Nat) (hS : SW E x aa A nn G) (hn : nn < 600) (s i f : Int32) : gM l yX10_put cX10_put 7 (some .int) 5 2 160 E b0 G [.ref x, .int s, .int i, .int f] (pI (fun v9 G1 => v9 = (sp_put A s i f).1 ∧ ∃ aa1 n1, n1 ≤ nn + 1 ∧ SW E x aa1 (sp_put A s i f).2 n1 G1)) := by
  obtain rfl : aa 0 = x := hS.2.2.1
  refine gM.of (by decide +kernel) (Nat.le_of_ble_eq_true rfl) ?_
  intro pP eP sP mI bP meth cP ls hx hb hr hml hown hlocks hnm hts hK hI hl
  have hl : lv_has ls 7 [(0, .ref (aa 0)), (1, .int s), (2, .int i), (3, .int f)] := hl
  have hown : sP.vm.findClass RX10 = some mI.cls := hown
  refine lv_iload_n hx hb dX10_put_0 rfl (lv_at hl 1 rfl) ?_
  refine g_callS (own := RX10) (index := 23) (n := 1) hx hb hml hown hts (c_X10_isShelf l E b0 _ s) m_ml_X10_23 m_st_X10_isShelf m_in_X10 m_co_X10_isShelf (by decide +kernel) ⟨Nat.le_of_ble_eq_true rfl, Nat.le_of_ble_eq_true rfl⟩ ⟨by first | exact Nat.le_of_ble_eq_true rfl | (show _ ≤ 2; omega), by first | exact Nat.le_of_ble_eq_true rfl | (show _ ≤ 160; omega)⟩ rfl hl.1 rfl (Nat.le_of_ble_eq_true rfl) dX10_put_1 hK hI (fun r G1 H1 L1 hp hI => ?_)
  obtain ⟨v, rfl, hGe, ⟨h_1, rfl⟩ | ⟨h_1, rfl⟩⟩ := hp
  · rw [hGe] at hI
    refine W.eq (g2 := F0 mI 4 ls [.int 1]) rfl ?_
    refine lv_if_eq (tgt := 14) hx hb dX10_put_4 (by decide) (fun c_2 => absurd c_2 (by decide)) (fun _ => ?_)
    refine lv_iload_n hx hb dX10_put_7 rfl (lv_at hl 3 rfl) ?_
    refine g_callS (own := RX10) (index := 23) (n := 1) hx hb hml hown hts (c_X10_isShelf l E b0 _ f) m_ml_X10_23 m_st_X10_isShelf m_in_X10 m_co_X10_isShelf (by decide +kernel) ⟨Nat.le_of_ble_eq_true rfl, Nat.le_of_ble_eq_true rfl⟩ ⟨by first | exact Nat.le_of_ble_eq_true rfl | (show _ ≤ 2; omega), by first | exact Nat.le_of_ble_eq_true rfl | (show _ ≤ 160; omega)⟩ rfl hl.1 rfl (Nat.le_of_ble_eq_true rfl) dX10_put_8 hK hI (fun r G1 H1 L1 hp hI => ?_)
    obtain ⟨v, rfl, hGe, ⟨h_3, rfl⟩ | ⟨h_3, rfl⟩⟩ := hp
    · rw [hGe] at hI
      refine W.eq (g2 := F0 mI 11 ls [.int 1]) rfl ?_
      refine lv_if_ne (tgt := 16) hx hb dX10_put_11 (by decide) (fun _ => ?_) (fun c_4 => absurd c_4 (by decide))
      refine lv_aload_n hx hb dX10_put_16 rfl (lv_at hl 0 rfl) ?_
      refine g_get (index := 11) (ci := 8) hx hb hts inlX10 hown hK hI hS.2.2.2.1 rfl 0 (by decide) m_fl_X10_11 (fun _ h9 => h9) rfl dX10_put_17 ?_
      refine lv_iload_n hx hb dX10_put_20 rfl (lv_at hl 3 rfl) ?_
      rcases btf (eqb (A 0 (ix f)) 0) with h_5 | h_5
      · have z_6 := fun lo hi => fit_0 (A := A) lo hi h_5
        have t_7 : tv nn (A 0 (ix f)) := (hS.tsh h_3)
        refine g_aald hx hb hK hI 1 hS.2.2.2.2.1 rfl (sh_in h_3) dX10_put_21 ?_
        refine W.eq (g2 := F0 mI 22 ls [.null]) (by rw [show shf aa A (Int32.toNatClampNeg f) = adr aa (A 0 (ix f)) from shf_at h_3, adr_n h_5]; rfl) ?_
        refine lv_astoreN (lv' := [(4, .null), (0, .ref (aa 0)), (1, .int s), (2, .int i), (3, .int f)]) hx hb dX10_put_22 hl (by decide) rfl (fun ls hl => ?_)
        refine lv_aloadN hx hb dX10_put_24 (lv_at hl 0 rfl) ?_
        refine g_callS (own := RX10) (index := 78) (n := 1) hx hb hml hown hts (c_X10_asFrame_n l E b0 _) m_ml_X10_78 m_st_X10_asFrame m_in_X10 m_co_X10_asFrame (by decide +kernel) ⟨Nat.le_of_ble_eq_true rfl, Nat.le_of_ble_eq_true rfl⟩ ⟨by first | exact Nat.le_of_ble_eq_true rfl | (show _ ≤ 2; omega), by first | exact Nat.le_of_ble_eq_true rfl | (show _ ≤ 160; omega)⟩ rfl hl.1 rfl (Nat.le_of_ble_eq_true rfl) dX10_put_26 hK hI (fun r G1 H1 L1 hp hI => ?_)
        obtain ⟨v, rfl, ev, hGe⟩ := hp
        subst ev
        rw [hGe] at hI
        refine W.eq (g2 := F0 mI 29 ls [.null]) rfl ?_
        refine lv_astoreN (lv' := [(5, .null), (4, .null), (0, .ref (aa 0)), (1, .int s), (2, .int i), (3, .int f)]) hx hb dX10_put_29 hl (by decide) rfl (fun ls hl => ?_)
        refine lv_aload_n hx hb dX10_put_31 rfl (lv_at hl 2 rfl) ?_
        refine g_get (index := 11) (ci := 8) hx hb hts inlX10 hown hK hI hS.2.2.2.1 rfl 0 (by decide) m_fl_X10_11 (fun _ h9 => h9) rfl dX10_put_32 ?_
        refine lv_iload_n hx hb dX10_put_35 rfl (lv_at hl 3 rfl) ?_
        rcases btf (eqb (A 0 (ix s)) 0) with h_8 | h_8
        · have z_9 := fun lo hi => fit_0 (A := A) lo hi h_8
          have t_10 : tv nn (A 0 (ix s)) := (hS.tsh h_1)
          refine g_aald hx hb hK hI 1 hS.2.2.2.2.1 rfl (sh_in h_1) dX10_put_36 ?_
          refine W.eq (g2 := F0 mI 37 ls [.null]) (by rw [show shf aa A (Int32.toNatClampNeg s) = adr aa (A 0 (ix s)) from shf_at h_1, adr_n h_8]; rfl) ?_
          refine g_callS (own := RX10) (index := 46) (n := 1) hx hb hml hown hts (c_X10_isNoHive_n l E b0 _) m_ml_X10_46 m_st_X10_isNoHive m_in_X10 m_co_X10_isNoHive (by decide +kernel) ⟨Nat.le_of_ble_eq_true rfl, Nat.le_of_ble_eq_true rfl⟩ ⟨by first | exact Nat.le_of_ble_eq_true rfl | (show _ ≤ 2; omega), by first | exact Nat.le_of_ble_eq_true rfl | (show _ ≤ 160; omega)⟩ rfl hl.1 rfl (Nat.le_of_ble_eq_true rfl) dX10_put_37 hK hI (fun r G1 H1 L1 hp hI => ?_)
          obtain ⟨v, rfl, ev, hGe⟩ := hp
          subst ev
          rw [hGe] at hI
          refine W.eq (g2 := F0 mI 40 ls [.int 0]) rfl ?_
          refine lv_if_ne (tgt := 53) hx hb dX10_put_40 (by decide) (fun c_11 => absurd c_11 (by decide)) (fun _ => ?_)
          refine lv_aloadN hx hb dX10_put_43 (lv_at hl 1 rfl) ?_
          refine lv_ifnullN (tgt := 59) hx hb dX10_put_45 (by decide) ?_
          refine lv_aload_n hx hb dX10_put_59 rfl (lv_at hl 2 rfl) ?_
          refine g_get (index := 11) (ci := 8) hx hb hts inlX10 hown hK hI hS.2.2.2.1 rfl 0 (by decide) m_fl_X10_11 (fun _ h9 => h9) rfl dX10_put_60 ?_
          refine lv_iload_n hx hb dX10_put_63 rfl (lv_at hl 3 rfl) ?_
          refine g_aald hx hb hK hI 1 hS.2.2.2.2.1 rfl (sh_in h_1) dX10_put_64 ?_
          refine W.eq (g2 := F0 mI 65 ls [.null]) (by rw [show shf aa A (Int32.toNatClampNeg s) = adr aa (A 0 (ix s)) from shf_at h_1, adr_n h_8]; rfl) ?_
          refine g_callS (own := RX10) (index := 54) (n := 1) hx hb hml hown hts (c_X10_asHive_n l E b0 _) m_ml_X10_54 m_st_X10_asHive m_in_X10 m_co_X10_asHive (by decide +kernel) ⟨Nat.le_of_ble_eq_true rfl, Nat.le_of_ble_eq_true rfl⟩ ⟨by first | exact Nat.le_of_ble_eq_true rfl | (show _ ≤ 2; omega), by first | exact Nat.le_of_ble_eq_true rfl | (show _ ≤ 160; omega)⟩ rfl hl.1 rfl (Nat.le_of_ble_eq_true rfl) dX10_put_65 hK hI (fun r G1 H1 L1 hp hI => ?_)
          obtain ⟨v, rfl, ev, hGe⟩ := hp
          subst ev
          rw [hGe] at hI
          refine W.eq (g2 := F0 mI 68 ls [.null]) rfl ?_
          refine lv_astoreN (lv' := [(6, .null), (5, .null), (4, .null), (0, .ref (aa 0)), (1, .int s), (2, .int i), (3, .int f)]) hx hb dX10_put_68 hl (by decide) rfl (fun ls hl => ?_)
          refine lv_aloadN hx hb dX10_put_70 (lv_at hl 0 rfl) ?_
          refine lv_ifnullN (tgt := 83) hx hb dX10_put_72 (by decide) ?_
          refine lv_aload_n hx hb dX10_put_83 rfl (lv_at hl 3 rfl) ?_
          refine lv_iconst (v := 1) hx hb dX10_put_84 (by decide) ?_
          refine g_callV (own := RX10) (index := 31) (n := 1) hx hb hml hown hts (c_X10_refuse l E b0 _ _ aa _ nn hS hn 1 (vp_in_iff.mpr (by decide))) hS.2.2.2.1 rfl rfl m_ml_X10_31 m_im_X10_refuse m_se_X10_X10_refuse_X10_refuse m_in_X10 m_co_X10_refuse (by decide +kernel) ⟨Nat.le_of_ble_eq_true rfl, Nat.le_of_ble_eq_true rfl⟩ ⟨by first | exact Nat.le_of_ble_eq_true rfl | (show _ ≤ 2; omega), by first | exact Nat.le_of_ble_eq_true rfl | (show _ ≤ 160; omega)⟩ rfl hl.1 rfl (Nat.le_of_ble_eq_true rfl) dX10_put_85 hK hI (fun r G1 H1 L1 hp hI => ?_)
          obtain ⟨v, rfl, ev, hS⟩ := hp
          subst ev
          refine W.eq (g2 := F0 mI 88 ls [.int (-10 - 1)]) rfl ?_
          have e9 : sp_put A s i f = ((-10 - 1), (rfs A 1)) := by
            simp only [sp_put, rfi, rfj, wHv, wRw, wSl, h_1, h_3, h_5, z_6, h_8, z_9, eqb_00, eqb_10, eqb_20, eqb_30, eqb_50, eqb_11, eqb_21, reduceIte, Bool.false_eq_true, not_true_eq_false, not_false_eq_true, ite_self]
          exact g_iret hx hb hr hlocks hI ⟨_, rfl, by rw [e9], aa, nn, by omega, by rw [e9]; exact hS⟩ dX10_put_88 (by omega) (by omega)
        · have _ := 0
          have t_12 : tv nn (A 0 (ix s)) := (hS.tsh h_1)
          refine g_aald hx hb hK hI 1 hS.2.2.2.2.1 rfl (sh_in h_1) dX10_put_36 ?_
          refine W.eq (g2 := F0 mI 37 ls [.ref (aa (4 * ix (A 0 (ix s))))]) (by rw [show shf aa A (Int32.toNatClampNeg s) = adr aa (A 0 (ix s)) from shf_at h_1, adr_s h_8]; rfl) ?_
          rcases btf (fit A (A 0 (ix s)) 6 7) with h_13 | h_13
          · have _ := 0
            refine g_callS (own := RX10) (index := 46) (n := 1) hx hb hml hown hts (c_X10_isNoHive_y l E b0 _ (aa (4 * ix (A 0 (ix s)))) _ _ (hS.at hn t_12 h_8) (cix_in _) (hS.gs hn t_12 h_8 5 (by decide) h_13)) m_ml_X10_46 m_st_X10_isNoHive m_in_X10 m_co_X10_isNoHive (by decide +kernel) ⟨Nat.le_of_ble_eq_true rfl, Nat.le_of_ble_eq_true rfl⟩ ⟨by first | exact Nat.le_of_ble_eq_true rfl | (show _ ≤ 2; omega), by first | exact Nat.le_of_ble_eq_true rfl | (show _ ≤ 160; omega)⟩ rfl hl.1 rfl (Nat.le_of_ble_eq_true rfl) dX10_put_37 hK hI (fun r G1 H1 L1 hp hI => ?_)
            obtain ⟨v, rfl, ev, hGe⟩ := hp
            subst ev
            rw [hGe] at hI
            refine W.eq (g2 := F0 mI 40 ls [.int 0]) rfl ?_
            refine lv_if_ne (tgt := 53) hx hb dX10_put_40 (by decide) (fun c_14 => absurd c_14 (by decide)) (fun _ => ?_)
            refine lv_aloadN hx hb dX10_put_43 (lv_at hl 1 rfl) ?_
            refine lv_ifnullN (tgt := 59) hx hb dX10_put_45 (by decide) ?_
            refine lv_aload_n hx hb dX10_put_59 rfl (lv_at hl 2 rfl) ?_
            refine g_get (index := 11) (ci := 8) hx hb hts inlX10 hown hK hI hS.2.2.2.1 rfl 0 (by decide) m_fl_X10_11 (fun _ h9 => h9) rfl dX10_put_60 ?_
            refine lv_iload_n hx hb dX10_put_63 rfl (lv_at hl 3 rfl) ?_
            refine g_aald hx hb hK hI 1 hS.2.2.2.2.1 rfl (sh_in h_1) dX10_put_64 ?_
            refine W.eq (g2 := F0 mI 65 ls [.ref (aa (4 * ix (A 0 (ix s))))]) (by rw [show shf aa A (Int32.toNatClampNeg s) = adr aa (A 0 (ix s)) from shf_at h_1, adr_s h_8]; rfl) ?_
            refine g_callS (own := RX10) (index := 54) (n := 1) hx hb hml hown hts (c_X10_asHive_y l E b0 _ (aa (4 * ix (A 0 (ix s)))) _ _ (hS.at hn t_12 h_8) (cix_in _) (hS.gs hn t_12 h_8 5 (by decide) h_13)) m_ml_X10_54 m_st_X10_asHive m_in_X10 m_co_X10_asHive (by decide +kernel) ⟨Nat.le_of_ble_eq_true rfl, Nat.le_of_ble_eq_true rfl⟩ ⟨by first | exact Nat.le_of_ble_eq_true rfl | (show _ ≤ 2; omega), by first | exact Nat.le_of_ble_eq_true rfl | (show _ ≤ 160; omega)⟩ rfl hl.1 rfl (Nat.le_of_ble_eq_true rfl) dX10_put_65 hK hI (fun r G1 H1 L1 hp hI => ?_)
            obtain ⟨v, rfl, ev, hGe⟩ := hp
            subst ev
            rw [hGe] at hI
            refine W.eq (g2 := F0 mI 68 ls [.ref (aa (4 * ix (A 0 (ix s))))]) rfl ?_
            refine lv_astore (lv' := [(6, .ref (aa (4 * ix (A 0 (ix s))))), (5, .null), (4, .null), (0, .ref (aa 0)), (1, .int s), (2, .int i), (3, .int f)]) hx hb dX10_put_68 hl (by decide) rfl (fun ls hl => ?_)
            refine lv_aload hx hb dX10_put_70 (lv_at hl 0 rfl) ?_
            refine lv_ifnull hx hb dX10_put_72 ?_
            refine lv_aload hx hb dX10_put_75 (lv_at hl 0 rfl) ?_
            rcases Classical.em ((A 5 (ix (A 0 (ix s)))) < 0) with h_15 | h_15
            · have _ := 0
              refine g_get (index := 62) (ci := 5) hx hb hts inlX5 hown hK hI (hS.hv hn t_12 h_8 h_13) rfl 1 (by decide) m_fl_X10_62 (fun _ h9 => h9) rfl dX10_put_77 ?_
              refine W.eq (g2 := F0 mI 80 ls [.null]) (by rw [rwo_n h_15]; rfl) ?_
              refine lv_ifnonnullN hx hb dX10_put_80 ?_
              refine lv_aload_n hx hb dX10_put_83 rfl (lv_at hl 3 rfl) ?_
              refine lv_iconst (v := 1) hx hb dX10_put_84 (by decide) ?_
              refine g_callV (own := RX10) (index := 31) (n := 1) hx hb hml hown hts (c_X10_refuse l E b0 _ _ aa _ nn hS hn 1 (vp_in_iff.mpr (by decide))) hS.2.2.2.1 rfl rfl m_ml_X10_31 m_im_X10_refuse m_se_X10_X10_refuse_X10_refuse m_in_X10 m_co_X10_refuse (by decide +kernel) ⟨Nat.le_of_ble_eq_true rfl, Nat.le_of_ble_eq_true rfl⟩ ⟨by first | exact Nat.le_of_ble_eq_true rfl | (show _ ≤ 2; omega), by first | exact Nat.le_of_ble_eq_true rfl | (show _ ≤ 160; omega)⟩ rfl hl.1 rfl (Nat.le_of_ble_eq_true rfl) dX10_put_85 hK hI (fun r G1 H1 L1 hp hI => ?_)
              obtain ⟨v, rfl, ev, hS⟩ := hp
              subst ev
              refine W.eq (g2 := F0 mI 88 ls [.int (-10 - 1)]) rfl ?_
              have e9 : sp_put A s i f = ((-10 - 1), (rfs A 1)) := by
                simp only [sp_put, rfi, rfj, wHv, wRw, wSl, h_1, h_3, h_5, z_6, h_8, h_13, h_15, eqb_00, eqb_10, eqb_20, eqb_30, eqb_50, eqb_11, eqb_21, reduceIte, Bool.false_eq_true, not_true_eq_false, not_false_eq_true, ite_self]
              exact g_iret hx hb hr hlocks hI ⟨_, rfl, by rw [e9], aa, nn, by omega, by rw [e9]; exact hS⟩ dX10_put_88 (by omega) (by omega)
            · have _ := 0
              refine g_get (index := 62) (ci := 5) hx hb hts inlX5 hown hK hI (hS.hv hn t_12 h_8 h_13) rfl 1 (by decide) m_fl_X10_62 (fun _ h9 => h9) rfl dX10_put_77 ?_
              refine W.eq (g2 := F0 mI 80 ls [.ref (aa (4 * ix (A 0 (ix s)) + 1))]) (by rw [rwo_s h_15]; rfl) ?_
              refine lv_ifnonnull (tgt := 89) hx hb dX10_put_80 (by decide) ?_
              refine lv_iload_n hx hb dX10_put_89 rfl (lv_at hl 5 rfl) ?_
              refine lv_aload hx hb dX10_put_90 (lv_at hl 0 rfl) ?_
              refine g_get (index := 62) (ci := 5) hx hb hts inlX5 hown hK hI (hS.hv hn t_12 h_8 h_13) rfl 1 (by decide) m_fl_X10_62 (fun _ h9 => h9) rfl dX10_put_92 ?_
              refine W.eq (g2 := F0 mI 95 ls [.ref (aa (4 * ix (A 0 (ix s)) + 1)), .int i]) (by rw [rwo_s h_15]; rfl) ?_
              refine g_alen hx hb hK hI 2 (hS.rw' hn t_12 h_8 h_15) rfl (nIix h_15) dX10_put_95 ?_
              refine g_callS (own := RX10) (index := 82) (n := 2) hx hb hml hown hts (c_X10_isIndex l E b0 _ i (A 5 (ix (A 0 (ix s)))) h_15) m_ml_X10_82 m_st_X10_isIndex m_in_X10 m_co_X10_isIndex (by decide +kernel) ⟨Nat.le_of_ble_eq_true rfl, Nat.le_of_ble_eq_true rfl⟩ ⟨by first | exact Nat.le_of_ble_eq_true rfl | (show _ ≤ 2; omega), by first | exact Nat.le_of_ble_eq_true rfl | (show _ ≤ 160; omega)⟩ rfl hl.1 rfl (Nat.le_of_ble_eq_true rfl) dX10_put_96 hK hI (fun r G1 H1 L1 hp hI => ?_)
              obtain ⟨v, rfl, hGe, ⟨h_16, rfl⟩ | ⟨h_16, rfl⟩⟩ := hp
              · rw [hGe] at hI
                refine W.eq (g2 := F0 mI 99 ls [.int 1]) rfl ?_
                refine lv_if_ne (tgt := 108) hx hb dX10_put_99 (by decide) (fun _ => ?_) (fun c_17 => absurd c_17 (by decide))
                refine lv_aload hx hb dX10_put_108 (lv_at hl 0 rfl) ?_
                refine lv_aloadN hx hb dX10_put_110 (lv_at hl 1 rfl) ?_
                rcases btf (eqb (A 2 (ix (A 0 (ix s)))) 7) with h_18 | h_18
                · have _ := 0
                  refine g_callV (own := RX10) (index := 86) (n := 1) hx hb hml hown hts (c_X5_canHold_7n l E b0 _ (aa (4 * ix (A 0 (ix s)))) _ _ _ _ _ _ (hS.hv hn t_12 h_8 h_13) (so_n6 h_18)) (hS.hv hn t_12 h_8 h_13) rfl rfl m_ml_X10_86 m_im_X5_canHold m_se_X5_X5_canHold_X5_canHold m_in_X5 m_co_X5_canHold (by decide +kernel) ⟨Nat.le_of_ble_eq_true rfl, Nat.le_of_ble_eq_true rfl⟩ ⟨by first | exact Nat.le_of_ble_eq_true rfl | (show _ ≤ 2; omega), by first | exact Nat.le_of_ble_eq_true rfl | (show _ ≤ 160; omega)⟩ rfl hl.1 rfl (Nat.le_of_ble_eq_true rfl) dX10_put_112 hK hI (fun r G1 H1 L1 hp hI => ?_)
                  obtain ⟨v, rfl, ev, hGe⟩ := hp
                  subst ev
                  rw [hGe] at hI
                  refine W.eq (g2 := F0 mI 115 ls [.int 1]) rfl ?_
                  refine lv_if_ne (tgt := 124) hx hb dX10_put_115 (by decide) (fun _ => ?_) (fun c_19 => absurd c_19 (by decide))
                  refine lv_aload hx hb dX10_put_124 (lv_at hl 0 rfl) ?_
                  refine g_get (index := 62) (ci := 5) hx hb hts inlX5 hown hK hI (hS.hv hn t_12 h_8 h_13) rfl 1 (by decide) m_fl_X10_62 (fun _ h9 => h9) rfl dX10_put_126 ?_
                  refine W.eq (g2 := F0 mI 129 ls [.ref (aa (4 * ix (A 0 (ix s)) + 1))]) (by rw [rwo_s h_15]; rfl) ?_
                  refine lv_iload_n hx hb dX10_put_129 rfl (lv_at hl 5 rfl) ?_
                  refine lv_aloadN hx hb dX10_put_130 (lv_at hl 1 rfl) ?_
                  refine W.eq (g2 := F0 mI 132 ls [va_rf (adr aa (A 0 (ix f))), .int i, .ref (aa (4 * ix (A 0 (ix s)) + 1))]) (by rw [adr_n h_5]; rfl) ?_
                  refine g_aast (o := adr aa (A 0 (ix f))) hx hb hK hI 2 (hS.rw' hn t_12 h_8 h_15) rfl (hS.anyF hn hK hI t_7 (fit_0 _ _ h_5)) (hS.slin hn t_12 h_15 h_16) dX10_put_132 (fun H1 L1 hI => ?_)
                  have hS := hS.slp hn t_12 h_8 h_15 h_16 t_7 (fit_0 _ _ h_5) (fun _ => fit_0 _ _ h_5)
                  refine W.eq (g2 := F0 mI 133 ls []) rfl ?_
                  refine lv_aloadN hx hb dX10_put_133 (lv_at hl 1 rfl) ?_
                  refine g_callS (own := RX10) (index := 42) (n := 1) hx hb hml hown hts (c_X10_oneIfThing_n l E b0 _) m_ml_X10_42 m_st_X10_oneIfThing m_in_X10 m_co_X10_oneIfThing (by decide +kernel) ⟨Nat.le_of_ble_eq_true rfl, Nat.le_of_ble_eq_true rfl⟩ ⟨by first | exact Nat.le_of_ble_eq_true rfl | (show _ ≤ 2; omega), by first | exact Nat.le_of_ble_eq_true rfl | (show _ ≤ 160; omega)⟩ rfl hl.1 rfl (Nat.le_of_ble_eq_true rfl) dX10_put_135 hK hI (fun r G1 H1 L1 hp hI => ?_)
                  obtain ⟨v, rfl, ev, hGe⟩ := hp
                  subst ev
                  rw [hGe] at hI
                  refine W.eq (g2 := F0 mI 138 ls [.int 0]) rfl ?_
                  have e9 : sp_put A s i f = (0, (u2 A 6 (ix ((30 * (A 0 (ix s))) + i)) (A 0 (ix f)))) := by
                    simp only [sp_put, rfi, rfj, wHv, wRw, wSl, h_1, h_3, h_5, z_6, h_8, h_13, h_15, h_16, h_18, eqb_00, eqb_10, eqb_20, eqb_30, eqb_50, eqb_11, eqb_21, reduceIte, Bool.false_eq_true, not_true_eq_false, not_false_eq_true, ite_self]
                  exact g_iret hx hb hr hlocks hI ⟨_, rfl, by rw [e9], aa, nn, by omega, by rw [e9]; exact hS⟩ dX10_put_138 (by omega) (by omega)
                · have _ := 0
                  refine g_callV (own := RX10) (index := 86) (n := 1) hx hb hml hown hts (c_X5_canHold_6n l E b0 _ (aa (4 * ix (A 0 (ix s)))) _ _ _ _ _ _ (hS.hv hn t_12 h_8 h_13) (so_6 (by rw [← fit_so h_8]; exact h_13) h_18)) (hS.hv hn t_12 h_8 h_13) rfl rfl m_ml_X10_86 m_im_X5_canHold m_se_X5_X5_canHold_X5_canHold m_in_X5 m_co_X5_canHold (by decide +kernel) ⟨Nat.le_of_ble_eq_true rfl, Nat.le_of_ble_eq_true rfl⟩ ⟨by first | exact Nat.le_of_ble_eq_true rfl | (show _ ≤ 2; omega), by first | exact Nat.le_of_ble_eq_true rfl | (show _ ≤ 160; omega)⟩ rfl hl.1 rfl (Nat.le_of_ble_eq_true rfl) dX10_put_112 hK hI (fun r G1 H1 L1 hp hI => ?_)
                  obtain ⟨v, rfl, ev, hGe⟩ := hp
                  subst ev
                  rw [hGe] at hI
                  refine W.eq (g2 := F0 mI 115 ls [.int 1]) rfl ?_
                  refine lv_if_ne (tgt := 124) hx hb dX10_put_115 (by decide) (fun _ => ?_) (fun c_20 => absurd c_20 (by decide))
                  refine lv_aload hx hb dX10_put_124 (lv_at hl 0 rfl) ?_
                  refine g_get (index := 62) (ci := 5) hx hb hts inlX5 hown hK hI (hS.hv hn t_12 h_8 h_13) rfl 1 (by decide) m_fl_X10_62 (fun _ h9 => h9) rfl dX10_put_126 ?_
                  refine W.eq (g2 := F0 mI 129 ls [.ref (aa (4 * ix (A 0 (ix s)) + 1))]) (by rw [rwo_s h_15]; rfl) ?_
                  refine lv_iload_n hx hb dX10_put_129 rfl (lv_at hl 5 rfl) ?_
                  refine lv_aloadN hx hb dX10_put_130 (lv_at hl 1 rfl) ?_
                  refine W.eq (g2 := F0 mI 132 ls [va_rf (adr aa (A 0 (ix f))), .int i, .ref (aa (4 * ix (A 0 (ix s)) + 1))]) (by rw [adr_n h_5]; rfl) ?_
                  refine g_aast (o := adr aa (A 0 (ix f))) hx hb hK hI 2 (hS.rw' hn t_12 h_8 h_15) rfl (hS.anyF hn hK hI t_7 (fit_0 _ _ h_5)) (hS.slin hn t_12 h_15 h_16) dX10_put_132 (fun H1 L1 hI => ?_)
                  have hS := hS.slp hn t_12 h_8 h_15 h_16 t_7 (fit_0 _ _ h_5) (fun h => by rw [h_18] at h; cases h)
                  refine W.eq (g2 := F0 mI 133 ls []) rfl ?_
                  refine lv_aloadN hx hb dX10_put_133 (lv_at hl 1 rfl) ?_
                  refine g_callS (own := RX10) (index := 42) (n := 1) hx hb hml hown hts (c_X10_oneIfThing_n l E b0 _) m_ml_X10_42 m_st_X10_oneIfThing m_in_X10 m_co_X10_oneIfThing (by decide +kernel) ⟨Nat.le_of_ble_eq_true rfl, Nat.le_of_ble_eq_true rfl⟩ ⟨by first | exact Nat.le_of_ble_eq_true rfl | (show _ ≤ 2; omega), by first | exact Nat.le_of_ble_eq_true rfl | (show _ ≤ 160; omega)⟩ rfl hl.1 rfl (Nat.le_of_ble_eq_true rfl) dX10_put_135 hK hI (fun r G1 H1 L1 hp hI => ?_)
                  obtain ⟨v, rfl, ev, hGe⟩ := hp
                  subst ev
                  rw [hGe] at hI
                  refine W.eq (g2 := F0 mI 138 ls [.int 0]) rfl ?_
                  have e9 : sp_put A s i f = (0, (u2 A 6 (ix ((30 * (A 0 (ix s))) + i)) (A 0 (ix f)))) := by
                    simp only [sp_put, rfi, rfj, wHv, wRw, wSl, h_1, h_3, h_5, z_6, h_8, h_13, h_15, h_16, h_18, eqb_00, eqb_10, eqb_20, eqb_30, eqb_50, eqb_11, eqb_21, reduceIte, Bool.false_eq_true, not_true_eq_false, not_false_eq_true, ite_self]
                  exact g_iret hx hb hr hlocks hI ⟨_, rfl, by rw [e9], aa, nn, by omega, by rw [e9]; exact hS⟩ dX10_put_138 (by omega) (by omega)
              · rw [hGe] at hI
                refine W.eq (g2 := F0 mI 99 ls [.int 0]) rfl ?_
                refine lv_if_ne (tgt := 108) hx hb dX10_put_99 (by decide) (fun c_21 => absurd c_21 (by decide)) (fun _ => ?_)
                refine lv_aload_n hx hb dX10_put_102 rfl (lv_at hl 3 rfl) ?_
                refine lv_iconst (v := 3) hx hb dX10_put_103 (by decide) ?_
                refine g_callV (own := RX10) (index := 31) (n := 1) hx hb hml hown hts (c_X10_refuse l E b0 _ _ aa _ nn hS hn 3 (vp_in_iff.mpr (by decide))) hS.2.2.2.1 rfl rfl m_ml_X10_31 m_im_X10_refuse m_se_X10_X10_refuse_X10_refuse m_in_X10 m_co_X10_refuse (by decide +kernel) ⟨Nat.le_of_ble_eq_true rfl, Nat.le_of_ble_eq_true rfl⟩ ⟨by first | exact Nat.le_of_ble_eq_true rfl | (show _ ≤ 2; omega), by first | exact Nat.le_of_ble_eq_true rfl | (show _ ≤ 160; omega)⟩ rfl hl.1 rfl (Nat.le_of_ble_eq_true rfl) dX10_put_104 hK hI (fun r G1 H1 L1 hp hI => ?_)
                obtain ⟨v, rfl, ev, hS⟩ := hp
                subst ev
                refine W.eq (g2 := F0 mI 107 ls [.int (-10 - 3)]) rfl ?_
                have e9 : sp_put A s i f = ((-10 - 3), (rfs A 3)) := by
                  simp only [sp_put, rfi, rfj, wHv, wRw, wSl, h_1, h_3, h_5, z_6, h_8, h_13, h_15, h_16, eqb_00, eqb_10, eqb_20, eqb_30, eqb_50, eqb_11, eqb_21, reduceIte, Bool.false_eq_true, not_true_eq_false, not_false_eq_true, ite_self]
                exact g_iret hx hb hr hlocks hI ⟨_, rfl, by rw [e9], aa, nn, by omega, by rw [e9]; exact hS⟩ dX10_put_107 (by omega) (by omega)
          · have _ := 0
            refine g_callS (own := RX10) (index := 46) (n := 1) hx hb hml hown hts (c_X10_isNoHive_f l E b0 _ (aa (4 * ix (A 0 (ix s)))) _ _ (hS.at hn t_12 h_8) (cix_in _) (hS.gs hn t_12 h_8 5 (by decide) h_13)) m_ml_X10_46 m_st_X10_isNoHive m_in_X10 m_co_X10_isNoHive (by decide +kernel) ⟨Nat.le_of_ble_eq_true rfl, Nat.le_of_ble_eq_true rfl⟩ ⟨by first | exact Nat.le_of_ble_eq_true rfl | (show _ ≤ 2; omega), by first | exact Nat.le_of_ble_eq_true rfl | (show _ ≤ 160; omega)⟩ rfl hl.1 rfl (Nat.le_of_ble_eq_true rfl) dX10_put_37 hK hI (fun r G1 H1 L1 hp hI => ?_)
            obtain ⟨v, rfl, ev, hGe⟩ := hp
            subst ev
            rw [hGe] at hI
            refine W.eq (g2 := F0 mI 40 ls [.int 1]) rfl ?_
            refine lv_if_ne (tgt := 53) hx hb dX10_put_40 (by decide) (fun _ => ?_) (fun c_22 => absurd c_22 (by decide))
            refine lv_aload_n hx hb dX10_put_53 rfl (lv_at hl 2 rfl) ?_
            refine lv_iconst (v := 5) hx hb dX10_put_54 (by decide) ?_
            refine g_callV (own := RX10) (index := 31) (n := 1) hx hb hml hown hts (c_X10_refuse l E b0 _ _ aa _ nn hS hn 5 (vp_in_iff.mpr (by decide))) hS.2.2.2.1 rfl rfl m_ml_X10_31 m_im_X10_refuse m_se_X10_X10_refuse_X10_refuse m_in_X10 m_co_X10_refuse (by decide +kernel) ⟨Nat.le_of_ble_eq_true rfl, Nat.le_of_ble_eq_true rfl⟩ ⟨by first | exact Nat.le_of_ble_eq_true rfl | (show _ ≤ 2; omega), by first | exact Nat.le_of_ble_eq_true rfl | (show _ ≤ 160; omega)⟩ rfl hl.1 rfl (Nat.le_of_ble_eq_true rfl) dX10_put_55 hK hI (fun r G1 H1 L1 hp hI => ?_)
            obtain ⟨v, rfl, ev, hS⟩ := hp
            subst ev
            refine W.eq (g2 := F0 mI 58 ls [.int (-10 - 5)]) rfl ?_
            have e9 : sp_put A s i f = ((-10 - 5), (rfs A 5)) := by
              simp only [sp_put, rfi, rfj, wHv, wRw, wSl, h_1, h_3, h_5, z_6, h_8, h_13, eqb_00, eqb_10, eqb_20, eqb_30, eqb_50, eqb_11, eqb_21, reduceIte, Bool.false_eq_true, not_true_eq_false, not_false_eq_true, ite_self]
            exact g_iret hx hb hr hlocks hI ⟨_, rfl, by rw [e9], aa, nn, by omega, by rw [e9]; exact hS⟩ dX10_put_58 (by omega) (by omega)
      · have _ := 0
        have t_23 : tv nn (A 0 (ix f)) := (hS.tsh h_3)
        refine g_aald hx hb hK hI 1 hS.2.2.2.2.1 rfl (sh_in h_3) dX10_put_21 ?_
        refine W.eq (g2 := F0 mI 22 ls [.ref (aa (4 * ix (A 0 (ix f))))]) (by rw [show shf aa A (Int32.toNatClampNeg f) = adr aa (A 0 (ix f)) from shf_at h_3, adr_s h_5]; rfl) ?_
        refine lv_astore (lv' := [(4, .ref (aa (4 * ix (A 0 (ix f))))), (0, .ref (aa 0)), (1, .int s), (2, .int i), (3, .int f)]) hx hb dX10_put_22 hl (by decide) rfl (fun ls hl => ?_)
        refine lv_aload hx hb dX10_put_24 (lv_at hl 0 rfl) ?_
        rcases btf (fit A (A 0 (ix f)) 0 1) with h_24 | h_24
        · have _ := 0
          refine g_callS (own := RX10) (index := 78) (n := 1) hx hb hml hown hts (c_X10_asFrame_y l E b0 _ (aa (4 * ix (A 0 (ix f)))) _ _ (hS.at hn t_23 h_5) (cix_in _) (hS.gs hn t_23 h_5 4 (by decide) h_24)) m_ml_X10_78 m_st_X10_asFrame m_in_X10 m_co_X10_asFrame (by decide +kernel) ⟨Nat.le_of_ble_eq_true rfl, Nat.le_of_ble_eq_true rfl⟩ ⟨by first | exact Nat.le_of_ble_eq_true rfl | (show _ ≤ 2; omega), by first | exact Nat.le_of_ble_eq_true rfl | (show _ ≤ 160; omega)⟩ rfl hl.1 rfl (Nat.le_of_ble_eq_true rfl) dX10_put_26 hK hI (fun r G1 H1 L1 hp hI => ?_)
          obtain ⟨v, rfl, ev, hGe⟩ := hp
          subst ev
          rw [hGe] at hI
          refine W.eq (g2 := F0 mI 29 ls [.ref (aa (4 * ix (A 0 (ix f))))]) rfl ?_
          refine lv_astore (lv' := [(5, .ref (aa (4 * ix (A 0 (ix f))))), (4, .ref (aa (4 * ix (A 0 (ix f))))), (0, .ref (aa 0)), (1, .int s), (2, .int i), (3, .int f)]) hx hb dX10_put_29 hl (by decide) rfl (fun ls hl => ?_)
          refine lv_aload_n hx hb dX10_put_31 rfl (lv_at hl 2 rfl) ?_
          refine g_get (index := 11) (ci := 8) hx hb hts inlX10 hown hK hI hS.2.2.2.1 rfl 0 (by decide) m_fl_X10_11 (fun _ h9 => h9) rfl dX10_put_32 ?_
          refine lv_iload_n hx hb dX10_put_35 rfl (lv_at hl 3 rfl) ?_
          rcases btf (eqb (A 0 (ix s)) 0) with h_25 | h_25
          · have z_26 := fun lo hi => fit_0 (A := A) lo hi h_25
            have t_27 : tv nn (A 0 (ix s)) := (hS.tsh h_1)
            refine g_aald hx hb hK hI 1 hS.2.2.2.2.1 rfl (sh_in h_1) dX10_put_36 ?_
            refine W.eq (g2 := F0 mI 37 ls [.null]) (by rw [show shf aa A (Int32.toNatClampNeg s) = adr aa (A 0 (ix s)) from shf_at h_1, adr_n h_25]; rfl) ?_
            refine g_callS (own := RX10) (index := 46) (n := 1) hx hb hml hown hts (c_X10_isNoHive_n l E b0 _) m_ml_X10_46 m_st_X10_isNoHive m_in_X10 m_co_X10_isNoHive (by decide +kernel) ⟨Nat.le_of_ble_eq_true rfl, Nat.le_of_ble_eq_true rfl⟩ ⟨by first | exact Nat.le_of_ble_eq_true rfl | (show _ ≤ 2; omega), by first | exact Nat.le_of_ble_eq_true rfl | (show _ ≤ 160; omega)⟩ rfl hl.1 rfl (Nat.le_of_ble_eq_true rfl) dX10_put_37 hK hI (fun r G1 H1 L1 hp hI => ?_)
            obtain ⟨v, rfl, ev, hGe⟩ := hp
            subst ev
            rw [hGe] at hI
            refine W.eq (g2 := F0 mI 40 ls [.int 0]) rfl ?_
            refine lv_if_ne (tgt := 53) hx hb dX10_put_40 (by decide) (fun c_28 => absurd c_28 (by decide)) (fun _ => ?_)
            refine lv_aload hx hb dX10_put_43 (lv_at hl 1 rfl) ?_
            refine lv_ifnull hx hb dX10_put_45 ?_
            refine lv_aload hx hb dX10_put_48 (lv_at hl 0 rfl) ?_
            refine lv_ifnonnull (tgt := 59) hx hb dX10_put_50 (by decide) ?_
            refine lv_aload_n hx hb dX10_put_59 rfl (lv_at hl 2 rfl) ?_
            refine g_get (index := 11) (ci := 8) hx hb hts inlX10 hown hK hI hS.2.2.2.1 rfl 0 (by decide) m_fl_X10_11 (fun _ h9 => h9) rfl dX10_put_60 ?_
            refine lv_iload_n hx hb dX10_put_63 rfl (lv_at hl 3 rfl) ?_
            refine g_aald hx hb hK hI 1 hS.2.2.2.2.1 rfl (sh_in h_1) dX10_put_64 ?_
            refine W.eq (g2 := F0 mI 65 ls [.null]) (by rw [show shf aa A (Int32.toNatClampNeg s) = adr aa (A 0 (ix s)) from shf_at h_1, adr_n h_25]; rfl) ?_
            refine g_callS (own := RX10) (index := 54) (n := 1) hx hb hml hown hts (c_X10_asHive_n l E b0 _) m_ml_X10_54 m_st_X10_asHive m_in_X10 m_co_X10_asHive (by decide +kernel) ⟨Nat.le_of_ble_eq_true rfl, Nat.le_of_ble_eq_true rfl⟩ ⟨by first | exact Nat.le_of_ble_eq_true rfl | (show _ ≤ 2; omega), by first | exact Nat.le_of_ble_eq_true rfl | (show _ ≤ 160; omega)⟩ rfl hl.1 rfl (Nat.le_of_ble_eq_true rfl) dX10_put_65 hK hI (fun r G1 H1 L1 hp hI => ?_)
            obtain ⟨v, rfl, ev, hGe⟩ := hp
            subst ev
            rw [hGe] at hI
            refine W.eq (g2 := F0 mI 68 ls [.null]) rfl ?_
            refine lv_astoreN (lv' := [(6, .null), (5, .ref (aa (4 * ix (A 0 (ix f))))), (4, .ref (aa (4 * ix (A 0 (ix f))))), (0, .ref (aa 0)), (1, .int s), (2, .int i), (3, .int f)]) hx hb dX10_put_68 hl (by decide) rfl (fun ls hl => ?_)
            refine lv_aloadN hx hb dX10_put_70 (lv_at hl 0 rfl) ?_
            refine lv_ifnullN (tgt := 83) hx hb dX10_put_72 (by decide) ?_
            refine lv_aload_n hx hb dX10_put_83 rfl (lv_at hl 3 rfl) ?_
            refine lv_iconst (v := 1) hx hb dX10_put_84 (by decide) ?_
            refine g_callV (own := RX10) (index := 31) (n := 1) hx hb hml hown hts (c_X10_refuse l E b0 _ _ aa _ nn hS hn 1 (vp_in_iff.mpr (by decide))) hS.2.2.2.1 rfl rfl m_ml_X10_31 m_im_X10_refuse m_se_X10_X10_refuse_X10_refuse m_in_X10 m_co_X10_refuse (by decide +kernel) ⟨Nat.le_of_ble_eq_true rfl, Nat.le_of_ble_eq_true rfl⟩ ⟨by first | exact Nat.le_of_ble_eq_true rfl | (show _ ≤ 2; omega), by first | exact Nat.le_of_ble_eq_true rfl | (show _ ≤ 160; omega)⟩ rfl hl.1 rfl (Nat.le_of_ble_eq_true rfl) dX10_put_85 hK hI (fun r G1 H1 L1 hp hI => ?_)
            obtain ⟨v, rfl, ev, hS⟩ := hp
            subst ev
            refine W.eq (g2 := F0 mI 88 ls [.int (-10 - 1)]) rfl ?_
            have e9 : sp_put A s i f = ((-10 - 1), (rfs A 1)) := by
              simp only [sp_put, rfi, rfj, wHv, wRw, wSl, h_1, h_3, h_5, h_24, h_25, z_26, eqb_00, eqb_10, eqb_20, eqb_30, eqb_50, eqb_11, eqb_21, reduceIte, Bool.false_eq_true, not_true_eq_false, not_false_eq_true, ite_self]
            exact g_iret hx hb hr hlocks hI ⟨_, rfl, by rw [e9], aa, nn, by omega, by rw [e9]; exact hS⟩ dX10_put_88 (by omega) (by omega)
          · have _ := 0
            have t_29 : tv nn (A 0 (ix s)) := (hS.tsh h_1)
            refine g_aald hx hb hK hI 1 hS.2.2.2.2.1 rfl (sh_in h_1) dX10_put_36 ?_
            refine W.eq (g2 := F0 mI 37 ls [.ref (aa (4 * ix (A 0 (ix s))))]) (by rw [show shf aa A (Int32.toNatClampNeg s) = adr aa (A 0 (ix s)) from shf_at h_1, adr_s h_25]; rfl) ?_
            rcases btf (fit A (A 0 (ix s)) 6 7) with h_30 | h_30
            · have _ := 0
              refine g_callS (own := RX10) (index := 46) (n := 1) hx hb hml hown hts (c_X10_isNoHive_y l E b0 _ (aa (4 * ix (A 0 (ix s)))) _ _ (hS.at hn t_29 h_25) (cix_in _) (hS.gs hn t_29 h_25 5 (by decide) h_30)) m_ml_X10_46 m_st_X10_isNoHive m_in_X10 m_co_X10_isNoHive (by decide +kernel) ⟨Nat.le_of_ble_eq_true rfl, Nat.le_of_ble_eq_true rfl⟩ ⟨by first | exact Nat.le_of_ble_eq_true rfl | (show _ ≤ 2; omega), by first | exact Nat.le_of_ble_eq_true rfl | (show _ ≤ 160; omega)⟩ rfl hl.1 rfl (Nat.le_of_ble_eq_true rfl) dX10_put_37 hK hI (fun r G1 H1 L1 hp hI => ?_)
              obtain ⟨v, rfl, ev, hGe⟩ := hp
              subst ev
              rw [hGe] at hI
              refine W.eq (g2 := F0 mI 40 ls [.int 0]) rfl ?_
              refine lv_if_ne (tgt := 53) hx hb dX10_put_40 (by decide) (fun c_31 => absurd c_31 (by decide)) (fun _ => ?_)
              refine lv_aload hx hb dX10_put_43 (lv_at hl 1 rfl) ?_
              refine lv_ifnull hx hb dX10_put_45 ?_
              refine lv_aload hx hb dX10_put_48 (lv_at hl 0 rfl) ?_
              refine lv_ifnonnull (tgt := 59) hx hb dX10_put_50 (by decide) ?_
              refine lv_aload_n hx hb dX10_put_59 rfl (lv_at hl 2 rfl) ?_
              refine g_get (index := 11) (ci := 8) hx hb hts inlX10 hown hK hI hS.2.2.2.1 rfl 0 (by decide) m_fl_X10_11 (fun _ h9 => h9) rfl dX10_put_60 ?_
              refine lv_iload_n hx hb dX10_put_63 rfl (lv_at hl 3 rfl) ?_
              refine g_aald hx hb hK hI 1 hS.2.2.2.2.1 rfl (sh_in h_1) dX10_put_64 ?_
              refine W.eq (g2 := F0 mI 65 ls [.ref (aa (4 * ix (A 0 (ix s))))]) (by rw [show shf aa A (Int32.toNatClampNeg s) = adr aa (A 0 (ix s)) from shf_at h_1, adr_s h_25]; rfl) ?_
              refine g_callS (own := RX10) (index := 54) (n := 1) hx hb hml hown hts (c_X10_asHive_y l E b0 _ (aa (4 * ix (A 0 (ix s)))) _ _ (hS.at hn t_29 h_25) (cix_in _) (hS.gs hn t_29 h_25 5 (by decide) h_30)) m_ml_X10_54 m_st_X10_asHive m_in_X10 m_co_X10_asHive (by decide +kernel) ⟨Nat.le_of_ble_eq_true rfl, Nat.le_of_ble_eq_true rfl⟩ ⟨by first | exact Nat.le_of_ble_eq_true rfl | (show _ ≤ 2; omega), by first | exact Nat.le_of_ble_eq_true rfl | (show _ ≤ 160; omega)⟩ rfl hl.1 rfl (Nat.le_of_ble_eq_true rfl) dX10_put_65 hK hI (fun r G1 H1 L1 hp hI => ?_)
              obtain ⟨v, rfl, ev, hGe⟩ := hp
              subst ev
              rw [hGe] at hI
              refine W.eq (g2 := F0 mI 68 ls [.ref (aa (4 * ix (A 0 (ix s))))]) rfl ?_
              refine lv_astore (lv' := [(6, .ref (aa (4 * ix (A 0 (ix s))))), (5, .ref (aa (4 * ix (A 0 (ix f))))), (4, .ref (aa (4 * ix (A 0 (ix f))))), (0, .ref (aa 0)), (1, .int s), (2, .int i), (3, .int f)]) hx hb dX10_put_68 hl (by decide) rfl (fun ls hl => ?_)
              refine lv_aload hx hb dX10_put_70 (lv_at hl 0 rfl) ?_
              refine lv_ifnull hx hb dX10_put_72 ?_
              refine lv_aload hx hb dX10_put_75 (lv_at hl 0 rfl) ?_
              rcases Classical.em ((A 5 (ix (A 0 (ix s)))) < 0) with h_32 | h_32
              · have _ := 0
                refine g_get (index := 62) (ci := 5) hx hb hts inlX5 hown hK hI (hS.hv hn t_29 h_25 h_30) rfl 1 (by decide) m_fl_X10_62 (fun _ h9 => h9) rfl dX10_put_77 ?_
                refine W.eq (g2 := F0 mI 80 ls [.null]) (by rw [rwo_n h_32]; rfl) ?_
                refine lv_ifnonnullN hx hb dX10_put_80 ?_
                refine lv_aload_n hx hb dX10_put_83 rfl (lv_at hl 3 rfl) ?_
                refine lv_iconst (v := 1) hx hb dX10_put_84 (by decide) ?_
                refine g_callV (own := RX10) (index := 31) (n := 1) hx hb hml hown hts (c_X10_refuse l E b0 _ _ aa _ nn hS hn 1 (vp_in_iff.mpr (by decide))) hS.2.2.2.1 rfl rfl m_ml_X10_31 m_im_X10_refuse m_se_X10_X10_refuse_X10_refuse m_in_X10 m_co_X10_refuse (by decide +kernel) ⟨Nat.le_of_ble_eq_true rfl, Nat.le_of_ble_eq_true rfl⟩ ⟨by first | exact Nat.le_of_ble_eq_true rfl | (show _ ≤ 2; omega), by first | exact Nat.le_of_ble_eq_true rfl | (show _ ≤ 160; omega)⟩ rfl hl.1 rfl (Nat.le_of_ble_eq_true rfl) dX10_put_85 hK hI (fun r G1 H1 L1 hp hI => ?_)
                obtain ⟨v, rfl, ev, hS⟩ := hp
                subst ev
                refine W.eq (g2 := F0 mI 88 ls [.int (-10 - 1)]) rfl ?_
                have e9 : sp_put A s i f = ((-10 - 1), (rfs A 1)) := by
                  simp only [sp_put, rfi, rfj, wHv, wRw, wSl, h_1, h_3, h_5, h_24, h_25, h_30, h_32, eqb_00, eqb_10, eqb_20, eqb_30, eqb_50, eqb_11, eqb_21, reduceIte, Bool.false_eq_true, not_true_eq_false, not_false_eq_true, ite_self]
                exact g_iret hx hb hr hlocks hI ⟨_, rfl, by rw [e9], aa, nn, by omega, by rw [e9]; exact hS⟩ dX10_put_88 (by omega) (by omega)
              · have _ := 0
                refine g_get (index := 62) (ci := 5) hx hb hts inlX5 hown hK hI (hS.hv hn t_29 h_25 h_30) rfl 1 (by decide) m_fl_X10_62 (fun _ h9 => h9) rfl dX10_put_77 ?_
                refine W.eq (g2 := F0 mI 80 ls [.ref (aa (4 * ix (A 0 (ix s)) + 1))]) (by rw [rwo_s h_32]; rfl) ?_
                refine lv_ifnonnull (tgt := 89) hx hb dX10_put_80 (by decide) ?_
                refine lv_iload_n hx hb dX10_put_89 rfl (lv_at hl 5 rfl) ?_
                refine lv_aload hx hb dX10_put_90 (lv_at hl 0 rfl) ?_
                refine g_get (index := 62) (ci := 5) hx hb hts inlX5 hown hK hI (hS.hv hn t_29 h_25 h_30) rfl 1 (by decide) m_fl_X10_62 (fun _ h9 => h9) rfl dX10_put_92 ?_
                refine W.eq (g2 := F0 mI 95 ls [.ref (aa (4 * ix (A 0 (ix s)) + 1)), .int i]) (by rw [rwo_s h_32]; rfl) ?_
                refine g_alen hx hb hK hI 2 (hS.rw' hn t_29 h_25 h_32) rfl (nIix h_32) dX10_put_95 ?_
                refine g_callS (own := RX10) (index := 82) (n := 2) hx hb hml hown hts (c_X10_isIndex l E b0 _ i (A 5 (ix (A 0 (ix s)))) h_32) m_ml_X10_82 m_st_X10_isIndex m_in_X10 m_co_X10_isIndex (by decide +kernel) ⟨Nat.le_of_ble_eq_true rfl, Nat.le_of_ble_eq_true rfl⟩ ⟨by first | exact Nat.le_of_ble_eq_true rfl | (show _ ≤ 2; omega), by first | exact Nat.le_of_ble_eq_true rfl | (show _ ≤ 160; omega)⟩ rfl hl.1 rfl (Nat.le_of_ble_eq_true rfl) dX10_put_96 hK hI (fun r G1 H1 L1 hp hI => ?_)
                obtain ⟨v, rfl, hGe, ⟨h_33, rfl⟩ | ⟨h_33, rfl⟩⟩ := hp
                · rw [hGe] at hI
                  refine W.eq (g2 := F0 mI 99 ls [.int 1]) rfl ?_
                  refine lv_if_ne (tgt := 108) hx hb dX10_put_99 (by decide) (fun _ => ?_) (fun c_34 => absurd c_34 (by decide))
                  refine lv_aload hx hb dX10_put_108 (lv_at hl 0 rfl) ?_
                  refine lv_aload hx hb dX10_put_110 (lv_at hl 1 rfl) ?_
                  rcases btf (eqb (A 2 (ix (A 0 (ix s)))) 7) with h_35 | h_35
                  · have _ := 0
                    rcases btf (fit A (A 0 (ix f)) 1 1) with h_36 | h_36
                    · have _ := 0
                      refine g_callV (own := RX10) (index := 86) (n := 1) hx hb hml hown hts (c_X5_canHold_7y l E b0 _ (aa (4 * ix (A 0 (ix f)))) _ _ (hS.at hn t_23 h_5) (cix_in _) (aa (4 * ix (A 0 (ix s)))) _ _ _ _ _ _ (hS.hv hn t_29 h_25 h_30) (so_n6 h_35) (hS.gs hn t_23 h_5 1 (by decide) h_36)) (hS.hv hn t_29 h_25 h_30) rfl rfl m_ml_X10_86 m_im_X5_canHold m_se_X5_X5_canHold_X5_canHold m_in_X5 m_co_X5_canHold (by decide +kernel) ⟨Nat.le_of_ble_eq_true rfl, Nat.le_of_ble_eq_true rfl⟩ ⟨by first | exact Nat.le_of_ble_eq_true rfl | (show _ ≤ 2; omega), by first | exact Nat.le_of_ble_eq_true rfl | (show _ ≤ 160; omega)⟩ rfl hl.1 rfl (Nat.le_of_ble_eq_true rfl) dX10_put_112 hK hI (fun r G1 H1 L1 hp hI => ?_)
                      obtain ⟨v, rfl, ev, hGe⟩ := hp
                      subst ev
                      rw [hGe] at hI
                      refine W.eq (g2 := F0 mI 115 ls [.int 1]) rfl ?_
                      refine lv_if_ne (tgt := 124) hx hb dX10_put_115 (by decide) (fun _ => ?_) (fun c_37 => absurd c_37 (by decide))
                      refine lv_aload hx hb dX10_put_124 (lv_at hl 0 rfl) ?_
                      refine g_get (index := 62) (ci := 5) hx hb hts inlX5 hown hK hI (hS.hv hn t_29 h_25 h_30) rfl 1 (by decide) m_fl_X10_62 (fun _ h9 => h9) rfl dX10_put_126 ?_
                      refine W.eq (g2 := F0 mI 129 ls [.ref (aa (4 * ix (A 0 (ix s)) + 1))]) (by rw [rwo_s h_32]; rfl) ?_
                      refine lv_iload_n hx hb dX10_put_129 rfl (lv_at hl 5 rfl) ?_
                      refine lv_aload hx hb dX10_put_130 (lv_at hl 1 rfl) ?_
                      refine W.eq (g2 := F0 mI 132 ls [va_rf (adr aa (A 0 (ix f))), .int i, .ref (aa (4 * ix (A 0 (ix s)) + 1))]) (by rw [adr_s h_5]; rfl) ?_
                      refine g_aast (o := adr aa (A 0 (ix f))) hx hb hK hI 2 (hS.rw' hn t_29 h_25 h_32) rfl (hS.anyF hn hK hI t_23 h_24) (hS.slin hn t_29 h_32 h_33) dX10_put_132 (fun H1 L1 hI => ?_)
                      have hS := hS.slp hn t_29 h_25 h_32 h_33 t_23 h_24 (fun _ => h_36)
                      refine W.eq (g2 := F0 mI 133 ls []) rfl ?_
                      refine lv_aload hx hb dX10_put_133 (lv_at hl 1 rfl) ?_
                      refine g_callS (own := RX10) (index := 42) (n := 1) hx hb hml hown hts (c_X10_oneIfThing_r l E b0 _ (aa (4 * ix (A 0 (ix f))))) m_ml_X10_42 m_st_X10_oneIfThing m_in_X10 m_co_X10_oneIfThing (by decide +kernel) ⟨Nat.le_of_ble_eq_true rfl, Nat.le_of_ble_eq_true rfl⟩ ⟨by first | exact Nat.le_of_ble_eq_true rfl | (show _ ≤ 2; omega), by first | exact Nat.le_of_ble_eq_true rfl | (show _ ≤ 160; omega)⟩ rfl hl.1 rfl (Nat.le_of_ble_eq_true rfl) dX10_put_135 hK hI (fun r G1 H1 L1 hp hI => ?_)
                      obtain ⟨v, rfl, ev, hGe⟩ := hp
                      subst ev
                      rw [hGe] at hI
                      refine W.eq (g2 := F0 mI 138 ls [.int 1]) rfl ?_
                      have e9 : sp_put A s i f = (1, (u2 A 6 (ix ((30 * (A 0 (ix s))) + i)) (A 0 (ix f)))) := by
                        simp only [sp_put, rfi, rfj, wHv, wRw, wSl, h_1, h_3, h_5, h_24, h_25, h_30, h_32, h_33, h_35, h_36, eqb_00, eqb_10, eqb_20, eqb_30, eqb_50, eqb_11, eqb_21, reduceIte, Bool.false_eq_true, not_true_eq_false, not_false_eq_true, ite_self]
                      exact g_iret hx hb hr hlocks hI ⟨_, rfl, by rw [e9], aa, nn, by omega, by rw [e9]; exact hS⟩ dX10_put_138 (by omega) (by omega)
                    · have _ := 0
                      refine g_callV (own := RX10) (index := 86) (n := 1) hx hb hml hown hts (c_X5_canHold_7f l E b0 _ (aa (4 * ix (A 0 (ix f)))) _ _ (hS.at hn t_23 h_5) (cix_in _) (aa (4 * ix (A 0 (ix s)))) _ _ _ _ _ _ (hS.hv hn t_29 h_25 h_30) (so_n6 h_35) (hS.gs hn t_23 h_5 1 (by decide) h_36)) (hS.hv hn t_29 h_25 h_30) rfl rfl m_ml_X10_86 m_im_X5_canHold m_se_X5_X5_canHold_X5_canHold m_in_X5 m_co_X5_canHold (by decide +kernel) ⟨Nat.le_of_ble_eq_true rfl, Nat.le_of_ble_eq_true rfl⟩ ⟨by first | exact Nat.le_of_ble_eq_true rfl | (show _ ≤ 2; omega), by first | exact Nat.le_of_ble_eq_true rfl | (show _ ≤ 160; omega)⟩ rfl hl.1 rfl (Nat.le_of_ble_eq_true rfl) dX10_put_112 hK hI (fun r G1 H1 L1 hp hI => ?_)
                      obtain ⟨v, rfl, ev, hGe⟩ := hp
                      subst ev
                      rw [hGe] at hI
                      refine W.eq (g2 := F0 mI 115 ls [.int 0]) rfl ?_
                      refine lv_if_ne (tgt := 124) hx hb dX10_put_115 (by decide) (fun c_38 => absurd c_38 (by decide)) (fun _ => ?_)
                      refine lv_aload_n hx hb dX10_put_118 rfl (lv_at hl 3 rfl) ?_
                      refine lv_iconst (v := 4) hx hb dX10_put_119 (by decide) ?_
                      refine g_callV (own := RX10) (index := 31) (n := 1) hx hb hml hown hts (c_X10_refuse l E b0 _ _ aa _ nn hS hn 4 (vp_in_iff.mpr (by decide))) hS.2.2.2.1 rfl rfl m_ml_X10_31 m_im_X10_refuse m_se_X10_X10_refuse_X10_refuse m_in_X10 m_co_X10_refuse (by decide +kernel) ⟨Nat.le_of_ble_eq_true rfl, Nat.le_of_ble_eq_true rfl⟩ ⟨by first | exact Nat.le_of_ble_eq_true rfl | (show _ ≤ 2; omega), by first | exact Nat.le_of_ble_eq_true rfl | (show _ ≤ 160; omega)⟩ rfl hl.1 rfl (Nat.le_of_ble_eq_true rfl) dX10_put_120 hK hI (fun r G1 H1 L1 hp hI => ?_)
                      obtain ⟨v, rfl, ev, hS⟩ := hp
                      subst ev
                      refine W.eq (g2 := F0 mI 123 ls [.int (-10 - 4)]) rfl ?_
                      have e9 : sp_put A s i f = ((-10 - 4), (rfs A 4)) := by
                        simp only [sp_put, rfi, rfj, wHv, wRw, wSl, h_1, h_3, h_5, h_24, h_25, h_30, h_32, h_33, h_35, h_36, eqb_00, eqb_10, eqb_20, eqb_30, eqb_50, eqb_11, eqb_21, reduceIte, Bool.false_eq_true, not_true_eq_false, not_false_eq_true, ite_self]
                      exact g_iret hx hb hr hlocks hI ⟨_, rfl, by rw [e9], aa, nn, by omega, by rw [e9]; exact hS⟩ dX10_put_123 (by omega) (by omega)
                  · have _ := 0
                    refine g_callV (own := RX10) (index := 86) (n := 1) hx hb hml hown hts (c_X5_canHold_6r l E b0 _ (aa (4 * ix (A 0 (ix s)))) _ _ _ _ _ _ (hS.hv hn t_29 h_25 h_30) (so_6 (by rw [← fit_so h_25]; exact h_30) h_35) (aa (4 * ix (A 0 (ix f))))) (hS.hv hn t_29 h_25 h_30) rfl rfl m_ml_X10_86 m_im_X5_canHold m_se_X5_X5_canHold_X5_canHold m_in_X5 m_co_X5_canHold (by decide +kernel) ⟨Nat.le_of_ble_eq_true rfl, Nat.le_of_ble_eq_true rfl⟩ ⟨by first | exact Nat.le_of_ble_eq_true rfl | (show _ ≤ 2; omega), by first | exact Nat.le_of_ble_eq_true rfl | (show _ ≤ 160; omega)⟩ rfl hl.1 rfl (Nat.le_of_ble_eq_true rfl) dX10_put_112 hK hI (fun r G1 H1 L1 hp hI => ?_)
                    obtain ⟨v, rfl, ev, hGe⟩ := hp
                    subst ev
                    rw [hGe] at hI
                    refine W.eq (g2 := F0 mI 115 ls [.int 1]) rfl ?_
                    refine lv_if_ne (tgt := 124) hx hb dX10_put_115 (by decide) (fun _ => ?_) (fun c_39 => absurd c_39 (by decide))
                    refine lv_aload hx hb dX10_put_124 (lv_at hl 0 rfl) ?_
                    refine g_get (index := 62) (ci := 5) hx hb hts inlX5 hown hK hI (hS.hv hn t_29 h_25 h_30) rfl 1 (by decide) m_fl_X10_62 (fun _ h9 => h9) rfl dX10_put_126 ?_
                    refine W.eq (g2 := F0 mI 129 ls [.ref (aa (4 * ix (A 0 (ix s)) + 1))]) (by rw [rwo_s h_32]; rfl) ?_
                    refine lv_iload_n hx hb dX10_put_129 rfl (lv_at hl 5 rfl) ?_
                    refine lv_aload hx hb dX10_put_130 (lv_at hl 1 rfl) ?_
                    refine W.eq (g2 := F0 mI 132 ls [va_rf (adr aa (A 0 (ix f))), .int i, .ref (aa (4 * ix (A 0 (ix s)) + 1))]) (by rw [adr_s h_5]; rfl) ?_
                    refine g_aast (o := adr aa (A 0 (ix f))) hx hb hK hI 2 (hS.rw' hn t_29 h_25 h_32) rfl (hS.anyF hn hK hI t_23 h_24) (hS.slin hn t_29 h_32 h_33) dX10_put_132 (fun H1 L1 hI => ?_)
                    have hS := hS.slp hn t_29 h_25 h_32 h_33 t_23 h_24 (fun h => by rw [h_35] at h; cases h)
                    refine W.eq (g2 := F0 mI 133 ls []) rfl ?_
                    refine lv_aload hx hb dX10_put_133 (lv_at hl 1 rfl) ?_
                    refine g_callS (own := RX10) (index := 42) (n := 1) hx hb hml hown hts (c_X10_oneIfThing_r l E b0 _ (aa (4 * ix (A 0 (ix f))))) m_ml_X10_42 m_st_X10_oneIfThing m_in_X10 m_co_X10_oneIfThing (by decide +kernel) ⟨Nat.le_of_ble_eq_true rfl, Nat.le_of_ble_eq_true rfl⟩ ⟨by first | exact Nat.le_of_ble_eq_true rfl | (show _ ≤ 2; omega), by first | exact Nat.le_of_ble_eq_true rfl | (show _ ≤ 160; omega)⟩ rfl hl.1 rfl (Nat.le_of_ble_eq_true rfl) dX10_put_135 hK hI (fun r G1 H1 L1 hp hI => ?_)
                    obtain ⟨v, rfl, ev, hGe⟩ := hp
                    subst ev
                    rw [hGe] at hI
                    refine W.eq (g2 := F0 mI 138 ls [.int 1]) rfl ?_
                    have e9 : sp_put A s i f = (1, (u2 A 6 (ix ((30 * (A 0 (ix s))) + i)) (A 0 (ix f)))) := by
                      simp only [sp_put, rfi, rfj, wHv, wRw, wSl, h_1, h_3, h_5, h_24, h_25, h_30, h_32, h_33, h_35, eqb_00, eqb_10, eqb_20, eqb_30, eqb_50, eqb_11, eqb_21, reduceIte, Bool.false_eq_true, not_true_eq_false, not_false_eq_true, ite_self]
                    exact g_iret hx hb hr hlocks hI ⟨_, rfl, by rw [e9], aa, nn, by omega, by rw [e9]; exact hS⟩ dX10_put_138 (by omega) (by omega)
                · rw [hGe] at hI
                  refine W.eq (g2 := F0 mI 99 ls [.int 0]) rfl ?_
                  refine lv_if_ne (tgt := 108) hx hb dX10_put_99 (by decide) (fun c_40 => absurd c_40 (by decide)) (fun _ => ?_)
                  refine lv_aload_n hx hb dX10_put_102 rfl (lv_at hl 3 rfl) ?_
                  refine lv_iconst (v := 3) hx hb dX10_put_103 (by decide) ?_
                  refine g_callV (own := RX10) (index := 31) (n := 1) hx hb hml hown hts (c_X10_refuse l E b0 _ _ aa _ nn hS hn 3 (vp_in_iff.mpr (by decide))) hS.2.2.2.1 rfl rfl m_ml_X10_31 m_im_X10_refuse m_se_X10_X10_refuse_X10_refuse m_in_X10 m_co_X10_refuse (by decide +kernel) ⟨Nat.le_of_ble_eq_true rfl, Nat.le_of_ble_eq_true rfl⟩ ⟨by first | exact Nat.le_of_ble_eq_true rfl | (show _ ≤ 2; omega), by first | exact Nat.le_of_ble_eq_true rfl | (show _ ≤ 160; omega)⟩ rfl hl.1 rfl (Nat.le_of_ble_eq_true rfl) dX10_put_104 hK hI (fun r G1 H1 L1 hp hI => ?_)
                  obtain ⟨v, rfl, ev, hS⟩ := hp
                  subst ev
                  refine W.eq (g2 := F0 mI 107 ls [.int (-10 - 3)]) rfl ?_
                  have e9 : sp_put A s i f = ((-10 - 3), (rfs A 3)) := by
                    simp only [sp_put, rfi, rfj, wHv, wRw, wSl, h_1, h_3, h_5, h_24, h_25, h_30, h_32, h_33, eqb_00, eqb_10, eqb_20, eqb_30, eqb_50, eqb_11, eqb_21, reduceIte, Bool.false_eq_true, not_true_eq_false, not_false_eq_true, ite_self]
                  exact g_iret hx hb hr hlocks hI ⟨_, rfl, by rw [e9], aa, nn, by omega, by rw [e9]; exact hS⟩ dX10_put_107 (by omega) (by omega)
            · have _ := 0
              refine g_callS (own := RX10) (index := 46) (n := 1) hx hb hml hown hts (c_X10_isNoHive_f l E b0 _ (aa (4 * ix (A 0 (ix s)))) _ _ (hS.at hn t_29 h_25) (cix_in _) (hS.gs hn t_29 h_25 5 (by decide) h_30)) m_ml_X10_46 m_st_X10_isNoHive m_in_X10 m_co_X10_isNoHive (by decide +kernel) ⟨Nat.le_of_ble_eq_true rfl, Nat.le_of_ble_eq_true rfl⟩ ⟨by first | exact Nat.le_of_ble_eq_true rfl | (show _ ≤ 2; omega), by first | exact Nat.le_of_ble_eq_true rfl | (show _ ≤ 160; omega)⟩ rfl hl.1 rfl (Nat.le_of_ble_eq_true rfl) dX10_put_37 hK hI (fun r G1 H1 L1 hp hI => ?_)
              obtain ⟨v, rfl, ev, hGe⟩ := hp
              subst ev
              rw [hGe] at hI
              refine W.eq (g2 := F0 mI 40 ls [.int 1]) rfl ?_
              refine lv_if_ne (tgt := 53) hx hb dX10_put_40 (by decide) (fun _ => ?_) (fun c_41 => absurd c_41 (by decide))
              refine lv_aload_n hx hb dX10_put_53 rfl (lv_at hl 2 rfl) ?_
              refine lv_iconst (v := 5) hx hb dX10_put_54 (by decide) ?_
              refine g_callV (own := RX10) (index := 31) (n := 1) hx hb hml hown hts (c_X10_refuse l E b0 _ _ aa _ nn hS hn 5 (vp_in_iff.mpr (by decide))) hS.2.2.2.1 rfl rfl m_ml_X10_31 m_im_X10_refuse m_se_X10_X10_refuse_X10_refuse m_in_X10 m_co_X10_refuse (by decide +kernel) ⟨Nat.le_of_ble_eq_true rfl, Nat.le_of_ble_eq_true rfl⟩ ⟨by first | exact Nat.le_of_ble_eq_true rfl | (show _ ≤ 2; omega), by first | exact Nat.le_of_ble_eq_true rfl | (show _ ≤ 160; omega)⟩ rfl hl.1 rfl (Nat.le_of_ble_eq_true rfl) dX10_put_55 hK hI (fun r G1 H1 L1 hp hI => ?_)
              obtain ⟨v, rfl, ev, hS⟩ := hp
              subst ev
              refine W.eq (g2 := F0 mI 58 ls [.int (-10 - 5)]) rfl ?_
              have e9 : sp_put A s i f = ((-10 - 5), (rfs A 5)) := by
                simp only [sp_put, rfi, rfj, wHv, wRw, wSl, h_1, h_3, h_5, h_24, h_25, h_30, eqb_00, eqb_10, eqb_20, eqb_30, eqb_50, eqb_11, eqb_21, reduceIte, Bool.false_eq_true, not_true_eq_false, not_false_eq_true, ite_self]
              exact g_iret hx hb hr hlocks hI ⟨_, rfl, by rw [e9], aa, nn, by omega, by rw [e9]; exact hS⟩ dX10_put_58 (by omega) (by omega)
        · have _ := 0
          refine g_callS (own := RX10) (index := 78) (n := 1) hx hb hml hown hts (c_X10_asFrame_f l E b0 _ (aa (4 * ix (A 0 (ix f)))) _ _ (hS.at hn t_23 h_5) (cix_in _) (hS.gs hn t_23 h_5 4 (by decide) h_24)) m_ml_X10_78 m_st_X10_asFrame m_in_X10 m_co_X10_asFrame (by decide +kernel) ⟨Nat.le_of_ble_eq_true rfl, Nat.le_of_ble_eq_true rfl⟩ ⟨by first | exact Nat.le_of_ble_eq_true rfl | (show _ ≤ 2; omega), by first | exact Nat.le_of_ble_eq_true rfl | (show _ ≤ 160; omega)⟩ rfl hl.1 rfl (Nat.le_of_ble_eq_true rfl) dX10_put_26 hK hI (fun r G1 H1 L1 hp hI => ?_)
          obtain ⟨v, rfl, ev, hGe⟩ := hp
          subst ev
          rw [hGe] at hI
          refine W.eq (g2 := F0 mI 29 ls [.null]) rfl ?_
          refine lv_astoreN (lv' := [(5, .null), (4, .ref (aa (4 * ix (A 0 (ix f))))), (0, .ref (aa 0)), (1, .int s), (2, .int i), (3, .int f)]) hx hb dX10_put_29 hl (by decide) rfl (fun ls hl => ?_)
          refine lv_aload_n hx hb dX10_put_31 rfl (lv_at hl 2 rfl) ?_
          refine g_get (index := 11) (ci := 8) hx hb hts inlX10 hown hK hI hS.2.2.2.1 rfl 0 (by decide) m_fl_X10_11 (fun _ h9 => h9) rfl dX10_put_32 ?_
          refine lv_iload_n hx hb dX10_put_35 rfl (lv_at hl 3 rfl) ?_
          rcases btf (eqb (A 0 (ix s)) 0) with h_42 | h_42
          · have z_43 := fun lo hi => fit_0 (A := A) lo hi h_42
            have t_44 : tv nn (A 0 (ix s)) := (hS.tsh h_1)
            refine g_aald hx hb hK hI 1 hS.2.2.2.2.1 rfl (sh_in h_1) dX10_put_36 ?_
            refine W.eq (g2 := F0 mI 37 ls [.null]) (by rw [show shf aa A (Int32.toNatClampNeg s) = adr aa (A 0 (ix s)) from shf_at h_1, adr_n h_42]; rfl) ?_
            refine g_callS (own := RX10) (index := 46) (n := 1) hx hb hml hown hts (c_X10_isNoHive_n l E b0 _) m_ml_X10_46 m_st_X10_isNoHive m_in_X10 m_co_X10_isNoHive (by decide +kernel) ⟨Nat.le_of_ble_eq_true rfl, Nat.le_of_ble_eq_true rfl⟩ ⟨by first | exact Nat.le_of_ble_eq_true rfl | (show _ ≤ 2; omega), by first | exact Nat.le_of_ble_eq_true rfl | (show _ ≤ 160; omega)⟩ rfl hl.1 rfl (Nat.le_of_ble_eq_true rfl) dX10_put_37 hK hI (fun r G1 H1 L1 hp hI => ?_)
            obtain ⟨v, rfl, ev, hGe⟩ := hp
            subst ev
            rw [hGe] at hI
            refine W.eq (g2 := F0 mI 40 ls [.int 0]) rfl ?_
            refine lv_if_ne (tgt := 53) hx hb dX10_put_40 (by decide) (fun c_45 => absurd c_45 (by decide)) (fun _ => ?_)
            refine lv_aload hx hb dX10_put_43 (lv_at hl 1 rfl) ?_
            refine lv_ifnull hx hb dX10_put_45 ?_
            refine lv_aloadN hx hb dX10_put_48 (lv_at hl 0 rfl) ?_
            refine lv_ifnonnullN hx hb dX10_put_50 ?_
            refine lv_aload_n hx hb dX10_put_53 rfl (lv_at hl 2 rfl) ?_
            refine lv_iconst (v := 5) hx hb dX10_put_54 (by decide) ?_
            refine g_callV (own := RX10) (index := 31) (n := 1) hx hb hml hown hts (c_X10_refuse l E b0 _ _ aa _ nn hS hn 5 (vp_in_iff.mpr (by decide))) hS.2.2.2.1 rfl rfl m_ml_X10_31 m_im_X10_refuse m_se_X10_X10_refuse_X10_refuse m_in_X10 m_co_X10_refuse (by decide +kernel) ⟨Nat.le_of_ble_eq_true rfl, Nat.le_of_ble_eq_true rfl⟩ ⟨by first | exact Nat.le_of_ble_eq_true rfl | (show _ ≤ 2; omega), by first | exact Nat.le_of_ble_eq_true rfl | (show _ ≤ 160; omega)⟩ rfl hl.1 rfl (Nat.le_of_ble_eq_true rfl) dX10_put_55 hK hI (fun r G1 H1 L1 hp hI => ?_)
            obtain ⟨v, rfl, ev, hS⟩ := hp
            subst ev
            refine W.eq (g2 := F0 mI 58 ls [.int (-10 - 5)]) rfl ?_
            have e9 : sp_put A s i f = ((-10 - 5), (rfs A 5)) := by
              simp only [sp_put, rfi, rfj, wHv, wRw, wSl, h_1, h_3, h_5, h_24, h_42, z_43, eqb_00, eqb_10, eqb_20, eqb_30, eqb_50, eqb_11, eqb_21, reduceIte, Bool.false_eq_true, not_true_eq_false, not_false_eq_true, ite_self]
            exact g_iret hx hb hr hlocks hI ⟨_, rfl, by rw [e9], aa, nn, by omega, by rw [e9]; exact hS⟩ dX10_put_58 (by omega) (by omega)
          · have _ := 0
            have t_46 : tv nn (A 0 (ix s)) := (hS.tsh h_1)
            refine g_aald hx hb hK hI 1 hS.2.2.2.2.1 rfl (sh_in h_1) dX10_put_36 ?_
            refine W.eq (g2 := F0 mI 37 ls [.ref (aa (4 * ix (A 0 (ix s))))]) (by rw [show shf aa A (Int32.toNatClampNeg s) = adr aa (A 0 (ix s)) from shf_at h_1, adr_s h_42]; rfl) ?_
            rcases btf (fit A (A 0 (ix s)) 6 7) with h_47 | h_47
            · have _ := 0
              refine g_callS (own := RX10) (index := 46) (n := 1) hx hb hml hown hts (c_X10_isNoHive_y l E b0 _ (aa (4 * ix (A 0 (ix s)))) _ _ (hS.at hn t_46 h_42) (cix_in _) (hS.gs hn t_46 h_42 5 (by decide) h_47)) m_ml_X10_46 m_st_X10_isNoHive m_in_X10 m_co_X10_isNoHive (by decide +kernel) ⟨Nat.le_of_ble_eq_true rfl, Nat.le_of_ble_eq_true rfl⟩ ⟨by first | exact Nat.le_of_ble_eq_true rfl | (show _ ≤ 2; omega), by first | exact Nat.le_of_ble_eq_true rfl | (show _ ≤ 160; omega)⟩ rfl hl.1 rfl (Nat.le_of_ble_eq_true rfl) dX10_put_37 hK hI (fun r G1 H1 L1 hp hI => ?_)
              obtain ⟨v, rfl, ev, hGe⟩ := hp
              subst ev
              rw [hGe] at hI
              refine W.eq (g2 := F0 mI 40 ls [.int 0]) rfl ?_
              refine lv_if_ne (tgt := 53) hx hb dX10_put_40 (by decide) (fun c_48 => absurd c_48 (by decide)) (fun _ => ?_)
              refine lv_aload hx hb dX10_put_43 (lv_at hl 1 rfl) ?_
              refine lv_ifnull hx hb dX10_put_45 ?_
              refine lv_aloadN hx hb dX10_put_48 (lv_at hl 0 rfl) ?_
              refine lv_ifnonnullN hx hb dX10_put_50 ?_
              refine lv_aload_n hx hb dX10_put_53 rfl (lv_at hl 2 rfl) ?_
              refine lv_iconst (v := 5) hx hb dX10_put_54 (by decide) ?_
              refine g_callV (own := RX10) (index := 31) (n := 1) hx hb hml hown hts (c_X10_refuse l E b0 _ _ aa _ nn hS hn 5 (vp_in_iff.mpr (by decide))) hS.2.2.2.1 rfl rfl m_ml_X10_31 m_im_X10_refuse m_se_X10_X10_refuse_X10_refuse m_in_X10 m_co_X10_refuse (by decide +kernel) ⟨Nat.le_of_ble_eq_true rfl, Nat.le_of_ble_eq_true rfl⟩ ⟨by first | exact Nat.le_of_ble_eq_true rfl | (show _ ≤ 2; omega), by first | exact Nat.le_of_ble_eq_true rfl | (show _ ≤ 160; omega)⟩ rfl hl.1 rfl (Nat.le_of_ble_eq_true rfl) dX10_put_55 hK hI (fun r G1 H1 L1 hp hI => ?_)
              obtain ⟨v, rfl, ev, hS⟩ := hp
              subst ev
              refine W.eq (g2 := F0 mI 58 ls [.int (-10 - 5)]) rfl ?_
              have e9 : sp_put A s i f = ((-10 - 5), (rfs A 5)) := by
                simp only [sp_put, rfi, rfj, wHv, wRw, wSl, h_1, h_3, h_5, h_24, h_42, h_47, eqb_00, eqb_10, eqb_20, eqb_30, eqb_50, eqb_11, eqb_21, reduceIte, Bool.false_eq_true, not_true_eq_false, not_false_eq_true, ite_self]
              exact g_iret hx hb hr hlocks hI ⟨_, rfl, by rw [e9], aa, nn, by omega, by rw [e9]; exact hS⟩ dX10_put_58 (by omega) (by omega)
            · have _ := 0
              refine g_callS (own := RX10) (index := 46) (n := 1) hx hb hml hown hts (c_X10_isNoHive_f l E b0 _ (aa (4 * ix (A 0 (ix s)))) _ _ (hS.at hn t_46 h_42) (cix_in _) (hS.gs hn t_46 h_42 5 (by decide) h_47)) m_ml_X10_46 m_st_X10_isNoHive m_in_X10 m_co_X10_isNoHive (by decide +kernel) ⟨Nat.le_of_ble_eq_true rfl, Nat.le_of_ble_eq_true rfl⟩ ⟨by first | exact Nat.le_of_ble_eq_true rfl | (show _ ≤ 2; omega), by first | exact Nat.le_of_ble_eq_true rfl | (show _ ≤ 160; omega)⟩ rfl hl.1 rfl (Nat.le_of_ble_eq_true rfl) dX10_put_37 hK hI (fun r G1 H1 L1 hp hI => ?_)
              obtain ⟨v, rfl, ev, hGe⟩ := hp
              subst ev
              rw [hGe] at hI
              refine W.eq (g2 := F0 mI 40 ls [.int 1]) rfl ?_
              refine lv_if_ne (tgt := 53) hx hb dX10_put_40 (by decide) (fun _ => ?_) (fun c_49 => absurd c_49 (by decide))
              refine lv_aload_n hx hb dX10_put_53 rfl (lv_at hl 2 rfl) ?_
              refine lv_iconst (v := 5) hx hb dX10_put_54 (by decide) ?_
              refine g_callV (own := RX10) (index := 31) (n := 1) hx hb hml hown hts (c_X10_refuse l E b0 _ _ aa _ nn hS hn 5 (vp_in_iff.mpr (by decide))) hS.2.2.2.1 rfl rfl m_ml_X10_31 m_im_X10_refuse m_se_X10_X10_refuse_X10_refuse m_in_X10 m_co_X10_refuse (by decide +kernel) ⟨Nat.le_of_ble_eq_true rfl, Nat.le_of_ble_eq_true rfl⟩ ⟨by first | exact Nat.le_of_ble_eq_true rfl | (show _ ≤ 2; omega), by first | exact Nat.le_of_ble_eq_true rfl | (show _ ≤ 160; omega)⟩ rfl hl.1 rfl (Nat.le_of_ble_eq_true rfl) dX10_put_55 hK hI (fun r G1 H1 L1 hp hI => ?_)
              obtain ⟨v, rfl, ev, hS⟩ := hp
              subst ev
              refine W.eq (g2 := F0 mI 58 ls [.int (-10 - 5)]) rfl ?_
              have e9 : sp_put A s i f = ((-10 - 5), (rfs A 5)) := by
                simp only [sp_put, rfi, rfj, wHv, wRw, wSl, h_1, h_3, h_5, h_24, h_42, h_47, eqb_00, eqb_10, eqb_20, eqb_30, eqb_50, eqb_11, eqb_21, reduceIte, Bool.false_eq_true, not_true_eq_false, not_false_eq_true, ite_self]
              exact g_iret hx hb hr hlocks hI ⟨_, rfl, by rw [e9], aa, nn, by omega, by rw [e9]; exact hS⟩ dX10_put_58 (by omega) (by omega)
    · rw [hGe] at hI
      refine W.eq (g2 := F0 mI 11 ls [.int 0]) rfl ?_
      refine lv_if_ne (tgt := 16) hx hb dX10_put_11 (by decide) (fun c_50 => absurd c_50 (by decide)) (fun _ => ?_)
      refine lv_iconst (v := -1) hx hb dX10_put_14 (by decide) ?_
      have e9 : sp_put A s i f = ((-1), A) := by
        simp only [sp_put, rfi, rfj, wHv, wRw, wSl, h_1, h_3, eqb_00, eqb_10, eqb_20, eqb_30, eqb_50, eqb_11, eqb_21, reduceIte, Bool.false_eq_true, not_true_eq_false, not_false_eq_true, ite_self]
      exact g_iret hx hb hr hlocks hI ⟨_, rfl, by rw [e9], aa, nn, by omega, by rw [e9]; exact hS⟩ dX10_put_15 (by omega) (by omega)
  · rw [hGe] at hI
    refine W.eq (g2 := F0 mI 4 ls [.int 0]) rfl ?_
    refine lv_if_eq (tgt := 14) hx hb dX10_put_4 (by decide) (fun _ => ?_) (fun c_51 => absurd c_51 (by decide))
    refine lv_iconst (v := -1) hx hb dX10_put_14 (by decide) ?_
    have e9 : sp_put A s i f = ((-1), A) := by
      simp only [sp_put, rfi, rfj, wHv, wRw, wSl, h_1, eqb_00, eqb_10, eqb_20, eqb_30, eqb_50, eqb_11, eqb_21, reduceIte, Bool.false_eq_true, not_true_eq_false, not_false_eq_true, ite_self]
    exact g_iret hx hb hr hlocks hI ⟨_, rfl, by rw [e9], aa, nn, by omega, by rw [e9]; exact hS⟩ dX10_put_15 (by omega) (by omega)
set_option maxHeartbeats 4000000 in
set_option maxRecDepth 100000 in
theorem c_X10_take (l : Launch) (E : gE) (b0 : Nat) (G : gG) (x : Nat) (aa : Nat → Nat) (A : gA) (nn : Nat) (hS : SW E x aa A nn G) (hn : nn < 600) (s i f : Int32) : gM l yX10_take cX10_take 6 (some .int) 5 2 160 E b0 G [.ref x, .int s, .int i, .int f] (pI (fun v9 G1 => v9 = (sp_take A s i f).1 ∧ ∃ aa1 n1, n1 ≤ nn + 1 ∧ SW E x aa1 (sp_take A s i f).2 n1 G1)) := by
  obtain rfl : aa 0 = x := hS.2.2.1
  refine gM.of (by decide +kernel) (Nat.le_of_ble_eq_true rfl) ?_
  intro pP eP sP mI bP meth cP ls hx hb hr hml hown hlocks hnm hts hK hI hl
  have hl : lv_has ls 6 [(0, .ref (aa 0)), (1, .int s), (2, .int i), (3, .int f)] := hl
  have hown : sP.vm.findClass RX10 = some mI.cls := hown
  refine lv_iload_n hx hb dX10_take_0 rfl (lv_at hl 1 rfl) ?_
  refine g_callS (own := RX10) (index := 23) (n := 1) hx hb hml hown hts (c_X10_isShelf l E b0 _ s) m_ml_X10_23 m_st_X10_isShelf m_in_X10 m_co_X10_isShelf (by decide +kernel) ⟨Nat.le_of_ble_eq_true rfl, Nat.le_of_ble_eq_true rfl⟩ ⟨by first | exact Nat.le_of_ble_eq_true rfl | (show _ ≤ 2; omega), by first | exact Nat.le_of_ble_eq_true rfl | (show _ ≤ 160; omega)⟩ rfl hl.1 rfl (Nat.le_of_ble_eq_true rfl) dX10_take_1 hK hI (fun r G1 H1 L1 hp hI => ?_)
  obtain ⟨v, rfl, hGe, ⟨h_1, rfl⟩ | ⟨h_1, rfl⟩⟩ := hp
  · rw [hGe] at hI
    refine W.eq (g2 := F0 mI 4 ls [.int 1]) rfl ?_
    refine lv_if_eq (tgt := 14) hx hb dX10_take_4 (by decide) (fun c_2 => absurd c_2 (by decide)) (fun _ => ?_)
    refine lv_iload_n hx hb dX10_take_7 rfl (lv_at hl 3 rfl) ?_
    refine g_callS (own := RX10) (index := 23) (n := 1) hx hb hml hown hts (c_X10_isShelf l E b0 _ f) m_ml_X10_23 m_st_X10_isShelf m_in_X10 m_co_X10_isShelf (by decide +kernel) ⟨Nat.le_of_ble_eq_true rfl, Nat.le_of_ble_eq_true rfl⟩ ⟨by first | exact Nat.le_of_ble_eq_true rfl | (show _ ≤ 2; omega), by first | exact Nat.le_of_ble_eq_true rfl | (show _ ≤ 160; omega)⟩ rfl hl.1 rfl (Nat.le_of_ble_eq_true rfl) dX10_take_8 hK hI (fun r G1 H1 L1 hp hI => ?_)
    obtain ⟨v, rfl, hGe, ⟨h_3, rfl⟩ | ⟨h_3, rfl⟩⟩ := hp
    · rw [hGe] at hI
      refine W.eq (g2 := F0 mI 11 ls [.int 1]) rfl ?_
      refine lv_if_ne (tgt := 16) hx hb dX10_take_11 (by decide) (fun _ => ?_) (fun c_4 => absurd c_4 (by decide))
      refine lv_aload_n hx hb dX10_take_16 rfl (lv_at hl 0 rfl) ?_
      refine g_get (index := 11) (ci := 8) hx hb hts inlX10 hown hK hI hS.2.2.2.1 rfl 0 (by decide) m_fl_X10_11 (fun _ h9 => h9) rfl dX10_take_17 ?_
      refine lv_iload_n hx hb dX10_take_20 rfl (lv_at hl 1 rfl) ?_
      rcases btf (eqb (A 0 (ix s)) 0) with h_5 | h_5
      · have z_6 := fun lo hi => fit_0 (A := A) lo hi h_5
        have t_7 : tv nn (A 0 (ix s)) := (hS.tsh h_1)
        refine g_aald hx hb hK hI 1 hS.2.2.2.2.1 rfl (sh_in h_1) dX10_take_21 ?_
        refine W.eq (g2 := F0 mI 22 ls [.null]) (by rw [show shf aa A (Int32.toNatClampNeg s) = adr aa (A 0 (ix s)) from shf_at h_1, adr_n h_5]; rfl) ?_
        refine g_callS (own := RX10) (index := 54) (n := 1) hx hb hml hown hts (c_X10_asHive_n l E b0 _) m_ml_X10_54 m_st_X10_asHive m_in_X10 m_co_X10_asHive (by decide +kernel) ⟨Nat.le_of_ble_eq_true rfl, Nat.le_of_ble_eq_true rfl⟩ ⟨by first | exact Nat.le_of_ble_eq_true rfl | (show _ ≤ 2; omega), by first | exact Nat.le_of_ble_eq_true rfl | (show _ ≤ 160; omega)⟩ rfl hl.1 rfl (Nat.le_of_ble_eq_true rfl) dX10_take_22 hK hI (fun r G1 H1 L1 hp hI => ?_)
        obtain ⟨v, rfl, ev, hGe⟩ := hp
        subst ev
        rw [hGe] at hI
        refine W.eq (g2 := F0 mI 25 ls [.null]) rfl ?_
        refine g_callS (own := RX10) (index := 90) (n := 1) hx hb hml hown hts (c_X10_rowOf_n l E b0 _) m_ml_X10_90 m_st_X10_rowOf m_in_X10 m_co_X10_rowOf (by decide +kernel) ⟨Nat.le_of_ble_eq_true rfl, Nat.le_of_ble_eq_true rfl⟩ ⟨by first | exact Nat.le_of_ble_eq_true rfl | (show _ ≤ 2; omega), by first | exact Nat.le_of_ble_eq_true rfl | (show _ ≤ 160; omega)⟩ rfl hl.1 rfl (Nat.le_of_ble_eq_true rfl) dX10_take_25 hK hI (fun r G1 H1 L1 hp hI => ?_)
        obtain ⟨v, rfl, ev, hGe⟩ := hp
        subst ev
        rw [hGe] at hI
        refine W.eq (g2 := F0 mI 28 ls [.null]) rfl ?_
        refine lv_astoreN (lv' := [(4, .null), (0, .ref (aa 0)), (1, .int s), (2, .int i), (3, .int f)]) hx hb dX10_take_28 hl (by decide) rfl (fun ls hl => ?_)
        refine lv_aloadN hx hb dX10_take_30 (lv_at hl 0 rfl) ?_
        refine lv_ifnonnullN hx hb dX10_take_32 ?_
        refine lv_aload_n hx hb dX10_take_35 rfl (lv_at hl 1 rfl) ?_
        refine lv_aload_n hx hb dX10_take_36 rfl (lv_at hl 1 rfl) ?_
        refine g_get (index := 11) (ci := 8) hx hb hts inlX10 hown hK hI hS.2.2.2.1 rfl 0 (by decide) m_fl_X10_11 (fun _ h9 => h9) rfl dX10_take_37 ?_
        refine lv_iload_n hx hb dX10_take_40 rfl (lv_at hl 2 rfl) ?_
        refine g_aald hx hb hK hI 1 hS.2.2.2.2.1 rfl (sh_in h_1) dX10_take_41 ?_
        refine W.eq (g2 := F0 mI 42 ls [.null, .ref (aa 0)]) (by rw [show shf aa A (Int32.toNatClampNeg s) = adr aa (A 0 (ix s)) from shf_at h_1, adr_n h_5]; rfl) ?_
        refine g_callS (own := RX10) (index := 66) (n := 1) hx hb hml hown hts (c_X10_castOrNull_n l E b0 _) m_ml_X10_66 m_st_X10_castOrNull m_in_X10 m_co_X10_castOrNull (by decide +kernel) ⟨Nat.le_of_ble_eq_true rfl, Nat.le_of_ble_eq_true rfl⟩ ⟨by first | exact Nat.le_of_ble_eq_true rfl | (show _ ≤ 2; omega), by first | exact Nat.le_of_ble_eq_true rfl | (show _ ≤ 160; omega)⟩ rfl hl.1 rfl (Nat.le_of_ble_eq_true rfl) dX10_take_42 hK hI (fun r G1 H1 L1 hp hI => ?_)
        obtain ⟨v, rfl, ev, hGe⟩ := hp
        subst ev
        rw [hGe] at hI
        refine W.eq (g2 := F0 mI 45 ls [.int 1, .ref (aa 0)]) rfl ?_
        refine g_callV (own := RX10) (index := 31) (n := 1) hx hb hml hown hts (c_X10_refuse l E b0 _ _ aa _ nn hS hn 1 (vp_in_iff.mpr (by decide))) hS.2.2.2.1 rfl rfl m_ml_X10_31 m_im_X10_refuse m_se_X10_X10_refuse_X10_refuse m_in_X10 m_co_X10_refuse (by decide +kernel) ⟨Nat.le_of_ble_eq_true rfl, Nat.le_of_ble_eq_true rfl⟩ ⟨by first | exact Nat.le_of_ble_eq_true rfl | (show _ ≤ 2; omega), by first | exact Nat.le_of_ble_eq_true rfl | (show _ ≤ 160; omega)⟩ rfl hl.1 rfl (Nat.le_of_ble_eq_true rfl) dX10_take_45 hK hI (fun r G1 H1 L1 hp hI => ?_)
        obtain ⟨v, rfl, ev, hS⟩ := hp
        subst ev
        refine W.eq (g2 := F0 mI 48 ls [.int (-10 - 1)]) rfl ?_
        have e9 : sp_take A s i f = ((-10 - 1), (rfs A 1)) := by
          simp only [sp_take, rfi, rfj, wHv, wRw, wSl, h_1, h_3, h_5, z_6, eqb_00, eqb_10, eqb_20, eqb_30, eqb_50, eqb_11, eqb_21, reduceIte, Bool.false_eq_true, not_true_eq_false, not_false_eq_true, ite_self]
        exact g_iret hx hb hr hlocks hI ⟨_, rfl, by rw [e9], aa, nn, by omega, by rw [e9]; exact hS⟩ dX10_take_48 (by omega) (by omega)
      · have _ := 0
        have t_8 : tv nn (A 0 (ix s)) := (hS.tsh h_1)
        refine g_aald hx hb hK hI 1 hS.2.2.2.2.1 rfl (sh_in h_1) dX10_take_21 ?_
        refine W.eq (g2 := F0 mI 22 ls [.ref (aa (4 * ix (A 0 (ix s))))]) (by rw [show shf aa A (Int32.toNatClampNeg s) = adr aa (A 0 (ix s)) from shf_at h_1, adr_s h_5]; rfl) ?_
        rcases btf (fit A (A 0 (ix s)) 6 7) with h_9 | h_9
        · have _ := 0
          refine g_callS (own := RX10) (index := 54) (n := 1) hx hb hml hown hts (c_X10_asHive_y l E b0 _ (aa (4 * ix (A 0 (ix s)))) _ _ (hS.at hn t_8 h_5) (cix_in _) (hS.gs hn t_8 h_5 5 (by decide) h_9)) m_ml_X10_54 m_st_X10_asHive m_in_X10 m_co_X10_asHive (by decide +kernel) ⟨Nat.le_of_ble_eq_true rfl, Nat.le_of_ble_eq_true rfl⟩ ⟨by first | exact Nat.le_of_ble_eq_true rfl | (show _ ≤ 2; omega), by first | exact Nat.le_of_ble_eq_true rfl | (show _ ≤ 160; omega)⟩ rfl hl.1 rfl (Nat.le_of_ble_eq_true rfl) dX10_take_22 hK hI (fun r G1 H1 L1 hp hI => ?_)
          obtain ⟨v, rfl, ev, hGe⟩ := hp
          subst ev
          rw [hGe] at hI
          refine W.eq (g2 := F0 mI 25 ls [.ref (aa (4 * ix (A 0 (ix s))))]) rfl ?_
          rcases Classical.em ((A 5 (ix (A 0 (ix s)))) < 0) with h_10 | h_10
          · have _ := 0
            refine g_callS (own := RX10) (index := 90) (n := 1) hx hb hml hown hts (c_X10_rowOf_r l E b0 _ (aa (4 * ix (A 0 (ix s)))) _ _ _ _ _ _ (hS.hv hn t_8 h_5 h_9)) m_ml_X10_90 m_st_X10_rowOf m_in_X10 m_co_X10_rowOf (by decide +kernel) ⟨Nat.le_of_ble_eq_true rfl, Nat.le_of_ble_eq_true rfl⟩ ⟨by first | exact Nat.le_of_ble_eq_true rfl | (show _ ≤ 2; omega), by first | exact Nat.le_of_ble_eq_true rfl | (show _ ≤ 160; omega)⟩ rfl hl.1 rfl (Nat.le_of_ble_eq_true rfl) dX10_take_25 hK hI (fun r G1 H1 L1 hp hI => ?_)
            obtain ⟨v, rfl, ev, hGe⟩ := hp
            rw [rwo_n h_10] at ev
            subst ev
            rw [hGe] at hI
            refine W.eq (g2 := F0 mI 28 ls [.null]) rfl ?_
            refine lv_astoreN (lv' := [(4, .null), (0, .ref (aa 0)), (1, .int s), (2, .int i), (3, .int f)]) hx hb dX10_take_28 hl (by decide) rfl (fun ls hl => ?_)
            refine lv_aloadN hx hb dX10_take_30 (lv_at hl 0 rfl) ?_
            refine lv_ifnonnullN hx hb dX10_take_32 ?_
            refine lv_aload_n hx hb dX10_take_35 rfl (lv_at hl 1 rfl) ?_
            refine lv_aload_n hx hb dX10_take_36 rfl (lv_at hl 1 rfl) ?_
            refine g_get (index := 11) (ci := 8) hx hb hts inlX10 hown hK hI hS.2.2.2.1 rfl 0 (by decide) m_fl_X10_11 (fun _ h9 => h9) rfl dX10_take_37 ?_
            refine lv_iload_n hx hb dX10_take_40 rfl (lv_at hl 2 rfl) ?_
            refine g_aald hx hb hK hI 1 hS.2.2.2.2.1 rfl (sh_in h_1) dX10_take_41 ?_
            refine W.eq (g2 := F0 mI 42 ls [.ref (aa (4 * ix (A 0 (ix s)))), .ref (aa 0)]) (by rw [show shf aa A (Int32.toNatClampNeg s) = adr aa (A 0 (ix s)) from shf_at h_1, adr_s h_5]; rfl) ?_
            refine g_callS (own := RX10) (index := 66) (n := 1) hx hb hml hown hts (c_X10_castOrNull_y l E b0 _ (aa (4 * ix (A 0 (ix s)))) _ _ (hS.at hn t_8 h_5) (cix_in _) (hS.gs hn t_8 h_5 5 (by decide) h_9)) m_ml_X10_66 m_st_X10_castOrNull m_in_X10 m_co_X10_castOrNull (by decide +kernel) ⟨Nat.le_of_ble_eq_true rfl, Nat.le_of_ble_eq_true rfl⟩ ⟨by first | exact Nat.le_of_ble_eq_true rfl | (show _ ≤ 2; omega), by first | exact Nat.le_of_ble_eq_true rfl | (show _ ≤ 160; omega)⟩ rfl hl.1 rfl (Nat.le_of_ble_eq_true rfl) dX10_take_42 hK hI (fun r G1 H1 L1 hp hI => ?_)
            obtain ⟨v, rfl, ev, hGe⟩ := hp
            subst ev
            rw [hGe] at hI
            refine W.eq (g2 := F0 mI 45 ls [.int 1, .ref (aa 0)]) rfl ?_
            refine g_callV (own := RX10) (index := 31) (n := 1) hx hb hml hown hts (c_X10_refuse l E b0 _ _ aa _ nn hS hn 1 (vp_in_iff.mpr (by decide))) hS.2.2.2.1 rfl rfl m_ml_X10_31 m_im_X10_refuse m_se_X10_X10_refuse_X10_refuse m_in_X10 m_co_X10_refuse (by decide +kernel) ⟨Nat.le_of_ble_eq_true rfl, Nat.le_of_ble_eq_true rfl⟩ ⟨by first | exact Nat.le_of_ble_eq_true rfl | (show _ ≤ 2; omega), by first | exact Nat.le_of_ble_eq_true rfl | (show _ ≤ 160; omega)⟩ rfl hl.1 rfl (Nat.le_of_ble_eq_true rfl) dX10_take_45 hK hI (fun r G1 H1 L1 hp hI => ?_)
            obtain ⟨v, rfl, ev, hS⟩ := hp
            subst ev
            refine W.eq (g2 := F0 mI 48 ls [.int (-10 - 1)]) rfl ?_
            have e9 : sp_take A s i f = ((-10 - 1), (rfs A 1)) := by
              simp only [sp_take, rfi, rfj, wHv, wRw, wSl, h_1, h_3, h_5, h_9, h_10, eqb_00, eqb_10, eqb_20, eqb_30, eqb_50, eqb_11, eqb_21, reduceIte, Bool.false_eq_true, not_true_eq_false, not_false_eq_true, ite_self]
            exact g_iret hx hb hr hlocks hI ⟨_, rfl, by rw [e9], aa, nn, by omega, by rw [e9]; exact hS⟩ dX10_take_48 (by omega) (by omega)
          · have _ := 0
            refine g_callS (own := RX10) (index := 90) (n := 1) hx hb hml hown hts (c_X10_rowOf_r l E b0 _ (aa (4 * ix (A 0 (ix s)))) _ _ _ _ _ _ (hS.hv hn t_8 h_5 h_9)) m_ml_X10_90 m_st_X10_rowOf m_in_X10 m_co_X10_rowOf (by decide +kernel) ⟨Nat.le_of_ble_eq_true rfl, Nat.le_of_ble_eq_true rfl⟩ ⟨by first | exact Nat.le_of_ble_eq_true rfl | (show _ ≤ 2; omega), by first | exact Nat.le_of_ble_eq_true rfl | (show _ ≤ 160; omega)⟩ rfl hl.1 rfl (Nat.le_of_ble_eq_true rfl) dX10_take_25 hK hI (fun r G1 H1 L1 hp hI => ?_)
            obtain ⟨v, rfl, ev, hGe⟩ := hp
            rw [rwo_s h_10] at ev
            subst ev
            rw [hGe] at hI
            refine W.eq (g2 := F0 mI 28 ls [.ref (aa (4 * ix (A 0 (ix s)) + 1))]) rfl ?_
            refine lv_astore (lv' := [(4, .ref (aa (4 * ix (A 0 (ix s)) + 1))), (0, .ref (aa 0)), (1, .int s), (2, .int i), (3, .int f)]) hx hb dX10_take_28 hl (by decide) rfl (fun ls hl => ?_)
            refine lv_aload hx hb dX10_take_30 (lv_at hl 0 rfl) ?_
            refine lv_ifnonnull (tgt := 49) hx hb dX10_take_32 (by decide) ?_
            refine lv_iload_n hx hb dX10_take_49 rfl (lv_at hl 3 rfl) ?_
            refine lv_aload hx hb dX10_take_50 (lv_at hl 0 rfl) ?_
            refine g_alen hx hb hK hI 2 (hS.rw' hn t_8 h_5 h_10) rfl (nIix h_10) dX10_take_52 ?_
            refine g_callS (own := RX10) (index := 82) (n := 2) hx hb hml hown hts (c_X10_isIndex l E b0 _ i (A 5 (ix (A 0 (ix s)))) h_10) m_ml_X10_82 m_st_X10_isIndex m_in_X10 m_co_X10_isIndex (by decide +kernel) ⟨Nat.le_of_ble_eq_true rfl, Nat.le_of_ble_eq_true rfl⟩ ⟨by first | exact Nat.le_of_ble_eq_true rfl | (show _ ≤ 2; omega), by first | exact Nat.le_of_ble_eq_true rfl | (show _ ≤ 160; omega)⟩ rfl hl.1 rfl (Nat.le_of_ble_eq_true rfl) dX10_take_53 hK hI (fun r G1 H1 L1 hp hI => ?_)
            obtain ⟨v, rfl, hGe, ⟨h_11, rfl⟩ | ⟨h_11, rfl⟩⟩ := hp
            · rw [hGe] at hI
              refine W.eq (g2 := F0 mI 56 ls [.int 1]) rfl ?_
              refine lv_if_ne (tgt := 65) hx hb dX10_take_56 (by decide) (fun _ => ?_) (fun c_12 => absurd c_12 (by decide))
              refine lv_aload hx hb dX10_take_65 (lv_at hl 0 rfl) ?_
              refine lv_iload_n hx hb dX10_take_67 rfl (lv_at hl 3 rfl) ?_
              rcases btf (eqb (A 6 (ix ((30 * (A 0 (ix s))) + i))) 0) with h_13 | h_13
              · have z_14 := fun lo hi => fit_0 (A := A) lo hi h_13
                have t_15 : tv nn (A 6 (ix ((30 * (A 0 (ix s))) + i))) := (hS.tsl hn t_8 h_10 h_11)
                refine g_aald hx hb hK hI 2 (hS.rw' hn t_8 h_5 h_10) rfl (hS.slin hn t_8 h_10 h_11) dX10_take_68 ?_
                refine W.eq (g2 := F0 mI 69 ls [.null]) (by rw [show rwf aa A (ix (A 0 (ix s))) (Int32.toNatClampNeg i) = adr aa (A 6 (ix ((30 * (A 0 (ix s))) + i))) from hS.slv hn t_8 h_10 h_11, adr_n h_13]; rfl) ?_
                refine lv_astoreN (lv' := [(5, .null), (4, .ref (aa (4 * ix (A 0 (ix s)) + 1))), (0, .ref (aa 0)), (1, .int s), (2, .int i), (3, .int f)]) hx hb dX10_take_69 hl (by decide) rfl (fun ls hl => ?_)
                refine lv_aload hx hb dX10_take_71 (lv_at hl 1 rfl) ?_
                refine lv_iload_n hx hb dX10_take_73 rfl (lv_at hl 4 rfl) ?_
                refine lv_anull hx hb dX10_take_74 ?_
                refine W.eq (g2 := F0 mI 75 ls [va_rf (adr aa 0), .int i, .ref (aa (4 * ix (A 0 (ix s)) + 1))]) (by rw [adr_n eqb_00]; rfl) ?_
                refine g_aast (o := adr aa 0) hx hb hK hI 2 (hS.rw' hn t_8 h_5 h_10) rfl (hS.anyF hn hK hI ⟨0, by omega, nI_0.symm⟩ (fit_z _ _ _)) (hS.slin hn t_8 h_10 h_11) dX10_take_75 (fun H1 L1 hI => ?_)
                have hS := hS.slp hn t_8 h_5 h_10 h_11 ⟨0, by omega, nI_0.symm⟩ (fit_z _ _ _) (fun _ => fit_z _ _ _)
                refine W.eq (g2 := F0 mI 76 ls []) rfl ?_
                refine lv_aload_n hx hb dX10_take_76 rfl (lv_at hl 2 rfl) ?_
                refine g_get (index := 11) (ci := 8) hx hb hts inlX10 hown hK hI hS.2.2.2.1 rfl 0 (by decide) m_fl_X10_11 (fun _ h9 => h9) rfl dX10_take_77 ?_
                refine lv_iload_n hx hb dX10_take_80 rfl (lv_at hl 5 rfl) ?_
                refine lv_aloadN hx hb dX10_take_81 (lv_at hl 0 rfl) ?_
                refine W.eq (g2 := F0 mI 83 ls [va_rf (adr aa (A 6 (ix ((30 * (A 0 (ix s))) + i)))), .int f, .ref (aa 1)]) (by rw [adr_n h_13]; rfl) ?_
                refine g_aast (o := adr aa (A 6 (ix ((30 * (A 0 (ix s))) + i)))) hx hb hK hI 1 hS.2.2.2.2.1 rfl (hS.any hn hK hI t_15) (sh_in h_3) dX10_take_83 (fun H1 L1 hI => ?_)
                have hS := hS.p0 (ix f) (sh_lt h_3) (w := (A 6 (ix ((30 * (A 0 (ix s))) + i)))) t_15
                refine W.eq (g2 := F0 mI 84 ls []) rfl ?_
                refine lv_aloadN hx hb dX10_take_84 (lv_at hl 0 rfl) ?_
                refine g_callS (own := RX10) (index := 42) (n := 1) hx hb hml hown hts (c_X10_oneIfThing_n l E b0 _) m_ml_X10_42 m_st_X10_oneIfThing m_in_X10 m_co_X10_oneIfThing (by decide +kernel) ⟨Nat.le_of_ble_eq_true rfl, Nat.le_of_ble_eq_true rfl⟩ ⟨by first | exact Nat.le_of_ble_eq_true rfl | (show _ ≤ 2; omega), by first | exact Nat.le_of_ble_eq_true rfl | (show _ ≤ 160; omega)⟩ rfl hl.1 rfl (Nat.le_of_ble_eq_true rfl) dX10_take_86 hK hI (fun r G1 H1 L1 hp hI => ?_)
                obtain ⟨v, rfl, ev, hGe⟩ := hp
                subst ev
                rw [hGe] at hI
                refine W.eq (g2 := F0 mI 89 ls [.int 0]) rfl ?_
                have e9 : sp_take A s i f = (0, (u2 (u2 A 6 (ix ((30 * (A 0 (ix s))) + i)) 0) 0 (ix f) (A 6 (ix ((30 * (A 0 (ix s))) + i))))) := by
                  simp only [sp_take, rfi, rfj, wHv, wRw, wSl, h_1, h_3, h_5, h_9, h_10, h_11, h_13, z_14, eqb_00, eqb_10, eqb_20, eqb_30, eqb_50, eqb_11, eqb_21, reduceIte, Bool.false_eq_true, not_true_eq_false, not_false_eq_true, ite_self]
                exact g_iret hx hb hr hlocks hI ⟨_, rfl, by rw [e9], aa, nn, by omega, by rw [e9]; exact hS⟩ dX10_take_89 (by omega) (by omega)
              · have _ := 0
                have t_16 : tv nn (A 6 (ix ((30 * (A 0 (ix s))) + i))) := (hS.tsl hn t_8 h_10 h_11)
                have f_17 := hS.fsl hn t_8 h_5 h_10 h_11
                refine g_aald hx hb hK hI 2 (hS.rw' hn t_8 h_5 h_10) rfl (hS.slin hn t_8 h_10 h_11) dX10_take_68 ?_
                refine W.eq (g2 := F0 mI 69 ls [.ref (aa (4 * ix (A 6 (ix ((30 * (A 0 (ix s))) + i)))))]) (by rw [show rwf aa A (ix (A 0 (ix s))) (Int32.toNatClampNeg i) = adr aa (A 6 (ix ((30 * (A 0 (ix s))) + i))) from hS.slv hn t_8 h_10 h_11, adr_s h_13]; rfl) ?_
                refine lv_astore (lv' := [(5, .ref (aa (4 * ix (A 6 (ix ((30 * (A 0 (ix s))) + i)))))), (4, .ref (aa (4 * ix (A 0 (ix s)) + 1))), (0, .ref (aa 0)), (1, .int s), (2, .int i), (3, .int f)]) hx hb dX10_take_69 hl (by decide) rfl (fun ls hl => ?_)
                refine lv_aload hx hb dX10_take_71 (lv_at hl 1 rfl) ?_
                refine lv_iload_n hx hb dX10_take_73 rfl (lv_at hl 4 rfl) ?_
                refine lv_anull hx hb dX10_take_74 ?_
                refine W.eq (g2 := F0 mI 75 ls [va_rf (adr aa 0), .int i, .ref (aa (4 * ix (A 0 (ix s)) + 1))]) (by rw [adr_n eqb_00]; rfl) ?_
                refine g_aast (o := adr aa 0) hx hb hK hI 2 (hS.rw' hn t_8 h_5 h_10) rfl (hS.anyF hn hK hI ⟨0, by omega, nI_0.symm⟩ (fit_z _ _ _)) (hS.slin hn t_8 h_10 h_11) dX10_take_75 (fun H1 L1 hI => ?_)
                have hS := hS.slp hn t_8 h_5 h_10 h_11 ⟨0, by omega, nI_0.symm⟩ (fit_z _ _ _) (fun _ => fit_z _ _ _)
                refine W.eq (g2 := F0 mI 76 ls []) rfl ?_
                refine lv_aload_n hx hb dX10_take_76 rfl (lv_at hl 2 rfl) ?_
                refine g_get (index := 11) (ci := 8) hx hb hts inlX10 hown hK hI hS.2.2.2.1 rfl 0 (by decide) m_fl_X10_11 (fun _ h9 => h9) rfl dX10_take_77 ?_
                refine lv_iload_n hx hb dX10_take_80 rfl (lv_at hl 5 rfl) ?_
                refine lv_aload hx hb dX10_take_81 (lv_at hl 0 rfl) ?_
                refine W.eq (g2 := F0 mI 83 ls [va_rf (adr aa (A 6 (ix ((30 * (A 0 (ix s))) + i)))), .int f, .ref (aa 1)]) (by rw [adr_s h_13]; rfl) ?_
                refine g_aast (o := adr aa (A 6 (ix ((30 * (A 0 (ix s))) + i)))) hx hb hK hI 1 hS.2.2.2.2.1 rfl (hS.any hn hK hI t_16) (sh_in h_3) dX10_take_83 (fun H1 L1 hI => ?_)
                have hS := hS.p0 (ix f) (sh_lt h_3) (w := (A 6 (ix ((30 * (A 0 (ix s))) + i)))) t_16
                refine W.eq (g2 := F0 mI 84 ls []) rfl ?_
                refine lv_aload hx hb dX10_take_84 (lv_at hl 0 rfl) ?_
                refine g_callS (own := RX10) (index := 42) (n := 1) hx hb hml hown hts (c_X10_oneIfThing_r l E b0 _ (aa (4 * ix (A 6 (ix ((30 * (A 0 (ix s))) + i)))))) m_ml_X10_42 m_st_X10_oneIfThing m_in_X10 m_co_X10_oneIfThing (by decide +kernel) ⟨Nat.le_of_ble_eq_true rfl, Nat.le_of_ble_eq_true rfl⟩ ⟨by first | exact Nat.le_of_ble_eq_true rfl | (show _ ≤ 2; omega), by first | exact Nat.le_of_ble_eq_true rfl | (show _ ≤ 160; omega)⟩ rfl hl.1 rfl (Nat.le_of_ble_eq_true rfl) dX10_take_86 hK hI (fun r G1 H1 L1 hp hI => ?_)
                obtain ⟨v, rfl, ev, hGe⟩ := hp
                subst ev
                rw [hGe] at hI
                refine W.eq (g2 := F0 mI 89 ls [.int 1]) rfl ?_
                have e9 : sp_take A s i f = (1, (u2 (u2 A 6 (ix ((30 * (A 0 (ix s))) + i)) 0) 0 (ix f) (A 6 (ix ((30 * (A 0 (ix s))) + i))))) := by
                  simp only [sp_take, rfi, rfj, wHv, wRw, wSl, h_1, h_3, h_5, h_9, h_10, h_11, h_13, eqb_00, eqb_10, eqb_20, eqb_30, eqb_50, eqb_11, eqb_21, reduceIte, Bool.false_eq_true, not_true_eq_false, not_false_eq_true, ite_self]
                exact g_iret hx hb hr hlocks hI ⟨_, rfl, by rw [e9], aa, nn, by omega, by rw [e9]; exact hS⟩ dX10_take_89 (by omega) (by omega)
            · rw [hGe] at hI
              refine W.eq (g2 := F0 mI 56 ls [.int 0]) rfl ?_
              refine lv_if_ne (tgt := 65) hx hb dX10_take_56 (by decide) (fun c_18 => absurd c_18 (by decide)) (fun _ => ?_)
              refine lv_aload_n hx hb dX10_take_59 rfl (lv_at hl 1 rfl) ?_
              refine lv_iconst (v := 3) hx hb dX10_take_60 (by decide) ?_
              refine g_callV (own := RX10) (index := 31) (n := 1) hx hb hml hown hts (c_X10_refuse l E b0 _ _ aa _ nn hS hn 3 (vp_in_iff.mpr (by decide))) hS.2.2.2.1 rfl rfl m_ml_X10_31 m_im_X10_refuse m_se_X10_X10_refuse_X10_refuse m_in_X10 m_co_X10_refuse (by decide +kernel) ⟨Nat.le_of_ble_eq_true rfl, Nat.le_of_ble_eq_true rfl⟩ ⟨by first | exact Nat.le_of_ble_eq_true rfl | (show _ ≤ 2; omega), by first | exact Nat.le_of_ble_eq_true rfl | (show _ ≤ 160; omega)⟩ rfl hl.1 rfl (Nat.le_of_ble_eq_true rfl) dX10_take_61 hK hI (fun r G1 H1 L1 hp hI => ?_)
              obtain ⟨v, rfl, ev, hS⟩ := hp
              subst ev
              refine W.eq (g2 := F0 mI 64 ls [.int (-10 - 3)]) rfl ?_
              have e9 : sp_take A s i f = ((-10 - 3), (rfs A 3)) := by
                simp only [sp_take, rfi, rfj, wHv, wRw, wSl, h_1, h_3, h_5, h_9, h_10, h_11, eqb_00, eqb_10, eqb_20, eqb_30, eqb_50, eqb_11, eqb_21, reduceIte, Bool.false_eq_true, not_true_eq_false, not_false_eq_true, ite_self]
              exact g_iret hx hb hr hlocks hI ⟨_, rfl, by rw [e9], aa, nn, by omega, by rw [e9]; exact hS⟩ dX10_take_64 (by omega) (by omega)
        · have _ := 0
          refine g_callS (own := RX10) (index := 54) (n := 1) hx hb hml hown hts (c_X10_asHive_f l E b0 _ (aa (4 * ix (A 0 (ix s)))) _ _ (hS.at hn t_8 h_5) (cix_in _) (hS.gs hn t_8 h_5 5 (by decide) h_9)) m_ml_X10_54 m_st_X10_asHive m_in_X10 m_co_X10_asHive (by decide +kernel) ⟨Nat.le_of_ble_eq_true rfl, Nat.le_of_ble_eq_true rfl⟩ ⟨by first | exact Nat.le_of_ble_eq_true rfl | (show _ ≤ 2; omega), by first | exact Nat.le_of_ble_eq_true rfl | (show _ ≤ 160; omega)⟩ rfl hl.1 rfl (Nat.le_of_ble_eq_true rfl) dX10_take_22 hK hI (fun r G1 H1 L1 hp hI => ?_)
          obtain ⟨v, rfl, ev, hGe⟩ := hp
          subst ev
          rw [hGe] at hI
          refine W.eq (g2 := F0 mI 25 ls [.null]) rfl ?_
          refine g_callS (own := RX10) (index := 90) (n := 1) hx hb hml hown hts (c_X10_rowOf_n l E b0 _) m_ml_X10_90 m_st_X10_rowOf m_in_X10 m_co_X10_rowOf (by decide +kernel) ⟨Nat.le_of_ble_eq_true rfl, Nat.le_of_ble_eq_true rfl⟩ ⟨by first | exact Nat.le_of_ble_eq_true rfl | (show _ ≤ 2; omega), by first | exact Nat.le_of_ble_eq_true rfl | (show _ ≤ 160; omega)⟩ rfl hl.1 rfl (Nat.le_of_ble_eq_true rfl) dX10_take_25 hK hI (fun r G1 H1 L1 hp hI => ?_)
          obtain ⟨v, rfl, ev, hGe⟩ := hp
          subst ev
          rw [hGe] at hI
          refine W.eq (g2 := F0 mI 28 ls [.null]) rfl ?_
          refine lv_astoreN (lv' := [(4, .null), (0, .ref (aa 0)), (1, .int s), (2, .int i), (3, .int f)]) hx hb dX10_take_28 hl (by decide) rfl (fun ls hl => ?_)
          refine lv_aloadN hx hb dX10_take_30 (lv_at hl 0 rfl) ?_
          refine lv_ifnonnullN hx hb dX10_take_32 ?_
          refine lv_aload_n hx hb dX10_take_35 rfl (lv_at hl 1 rfl) ?_
          refine lv_aload_n hx hb dX10_take_36 rfl (lv_at hl 1 rfl) ?_
          refine g_get (index := 11) (ci := 8) hx hb hts inlX10 hown hK hI hS.2.2.2.1 rfl 0 (by decide) m_fl_X10_11 (fun _ h9 => h9) rfl dX10_take_37 ?_
          refine lv_iload_n hx hb dX10_take_40 rfl (lv_at hl 2 rfl) ?_
          refine g_aald hx hb hK hI 1 hS.2.2.2.2.1 rfl (sh_in h_1) dX10_take_41 ?_
          refine W.eq (g2 := F0 mI 42 ls [.ref (aa (4 * ix (A 0 (ix s)))), .ref (aa 0)]) (by rw [show shf aa A (Int32.toNatClampNeg s) = adr aa (A 0 (ix s)) from shf_at h_1, adr_s h_5]; rfl) ?_
          refine g_callS (own := RX10) (index := 66) (n := 1) hx hb hml hown hts (c_X10_castOrNull_f l E b0 _ (aa (4 * ix (A 0 (ix s)))) _ _ (hS.at hn t_8 h_5) (cix_in _) (hS.gs hn t_8 h_5 5 (by decide) h_9)) m_ml_X10_66 m_st_X10_castOrNull m_in_X10 m_co_X10_castOrNull (by decide +kernel) ⟨Nat.le_of_ble_eq_true rfl, Nat.le_of_ble_eq_true rfl⟩ ⟨by first | exact Nat.le_of_ble_eq_true rfl | (show _ ≤ 2; omega), by first | exact Nat.le_of_ble_eq_true rfl | (show _ ≤ 160; omega)⟩ rfl hl.1 rfl (Nat.le_of_ble_eq_true rfl) dX10_take_42 hK hI (fun r G1 H1 L1 hp hI => ?_)
          obtain ⟨v, rfl, ev, hGe⟩ := hp
          subst ev
          rw [hGe] at hI
          refine W.eq (g2 := F0 mI 45 ls [.int 5, .ref (aa 0)]) rfl ?_
          refine g_callV (own := RX10) (index := 31) (n := 1) hx hb hml hown hts (c_X10_refuse l E b0 _ _ aa _ nn hS hn 5 (vp_in_iff.mpr (by decide))) hS.2.2.2.1 rfl rfl m_ml_X10_31 m_im_X10_refuse m_se_X10_X10_refuse_X10_refuse m_in_X10 m_co_X10_refuse (by decide +kernel) ⟨Nat.le_of_ble_eq_true rfl, Nat.le_of_ble_eq_true rfl⟩ ⟨by first | exact Nat.le_of_ble_eq_true rfl | (show _ ≤ 2; omega), by first | exact Nat.le_of_ble_eq_true rfl | (show _ ≤ 160; omega)⟩ rfl hl.1 rfl (Nat.le_of_ble_eq_true rfl) dX10_take_45 hK hI (fun r G1 H1 L1 hp hI => ?_)
          obtain ⟨v, rfl, ev, hS⟩ := hp
          subst ev
          refine W.eq (g2 := F0 mI 48 ls [.int (-10 - 5)]) rfl ?_
          have e9 : sp_take A s i f = ((-10 - 5), (rfs A 5)) := by
            simp only [sp_take, rfi, rfj, wHv, wRw, wSl, h_1, h_3, h_5, h_9, eqb_00, eqb_10, eqb_20, eqb_30, eqb_50, eqb_11, eqb_21, reduceIte, Bool.false_eq_true, not_true_eq_false, not_false_eq_true, ite_self]
          exact g_iret hx hb hr hlocks hI ⟨_, rfl, by rw [e9], aa, nn, by omega, by rw [e9]; exact hS⟩ dX10_take_48 (by omega) (by omega)
    · rw [hGe] at hI
      refine W.eq (g2 := F0 mI 11 ls [.int 0]) rfl ?_
      refine lv_if_ne (tgt := 16) hx hb dX10_take_11 (by decide) (fun c_19 => absurd c_19 (by decide)) (fun _ => ?_)
      refine lv_iconst (v := -1) hx hb dX10_take_14 (by decide) ?_
      have e9 : sp_take A s i f = ((-1), A) := by
        simp only [sp_take, rfi, rfj, wHv, wRw, wSl, h_1, h_3, eqb_00, eqb_10, eqb_20, eqb_30, eqb_50, eqb_11, eqb_21, reduceIte, Bool.false_eq_true, not_true_eq_false, not_false_eq_true, ite_self]
      exact g_iret hx hb hr hlocks hI ⟨_, rfl, by rw [e9], aa, nn, by omega, by rw [e9]; exact hS⟩ dX10_take_15 (by omega) (by omega)
  · rw [hGe] at hI
    refine W.eq (g2 := F0 mI 4 ls [.int 0]) rfl ?_
    refine lv_if_eq (tgt := 14) hx hb dX10_take_4 (by decide) (fun _ => ?_) (fun c_20 => absurd c_20 (by decide))
    refine lv_iconst (v := -1) hx hb dX10_take_14 (by decide) ?_
    have e9 : sp_take A s i f = ((-1), A) := by
      simp only [sp_take, rfi, rfj, wHv, wRw, wSl, h_1, eqb_00, eqb_10, eqb_20, eqb_30, eqb_50, eqb_11, eqb_21, reduceIte, Bool.false_eq_true, not_true_eq_false, not_false_eq_true, ite_self]
    exact g_iret hx hb hr hlocks hI ⟨_, rfl, by rw [e9], aa, nn, by omega, by rw [e9]; exact hS⟩ dX10_take_15 (by omega) (by omega)
set_option maxHeartbeats 4000000 in
set_option maxRecDepth 100000 in
theorem c_X10_honey (l : Launch) (E : gE) (b0 : Nat) (G : gG) (x : Nat) (aa : Nat → Nat) (A : gA) (nn : Nat) (hS : SW E x aa A nn G) (hn : nn < 600) (s i v : Int32) : gM l yX10_honey cX10_honey 6 (some .long) 5 2 160 E b0 G [.ref x, .int s, .int i, .int v] (pL (fun v9 G1 => v9 = (sp_honey A s i v).1 ∧ ∃ aa1 n1, n1 ≤ nn + 1 ∧ SW E x aa1 (sp_honey A s i v).2 n1 G1)) := by
  obtain rfl : aa 0 = x := hS.2.2.1
  refine gM.of (by decide +kernel) (Nat.le_of_ble_eq_true rfl) ?_
  intro pP eP sP mI bP meth cP ls hx hb hr hml hown hlocks hnm hts hK hI hl
  have hl : lv_has ls 6 [(0, .ref (aa 0)), (1, .int s), (2, .int i), (3, .int v)] := hl
  have hown : sP.vm.findClass RX10 = some mI.cls := hown
  refine lv_iload_n hx hb dX10_honey_0 rfl (lv_at hl 1 rfl) ?_
  refine g_callS (own := RX10) (index := 23) (n := 1) hx hb hml hown hts (c_X10_isShelf l E b0 _ s) m_ml_X10_23 m_st_X10_isShelf m_in_X10 m_co_X10_isShelf (by decide +kernel) ⟨Nat.le_of_ble_eq_true rfl, Nat.le_of_ble_eq_true rfl⟩ ⟨by first | exact Nat.le_of_ble_eq_true rfl | (show _ ≤ 2; omega), by first | exact Nat.le_of_ble_eq_true rfl | (show _ ≤ 160; omega)⟩ rfl hl.1 rfl (Nat.le_of_ble_eq_true rfl) dX10_honey_1 hK hI (fun r G1 H1 L1 hp hI => ?_)
  obtain ⟨v, rfl, hGe, ⟨h_1, rfl⟩ | ⟨h_1, rfl⟩⟩ := hp
  · rw [hGe] at hI
    refine W.eq (g2 := F0 mI 4 ls [.int 1]) rfl ?_
    refine lv_if_ne (tgt := 11) hx hb dX10_honey_4 (by decide) (fun _ => ?_) (fun c_2 => absurd c_2 (by decide))
    refine lv_aload_n hx hb dX10_honey_11 rfl (lv_at hl 0 rfl) ?_
    refine g_get (index := 11) (ci := 8) hx hb hts inlX10 hown hK hI hS.2.2.2.1 rfl 0 (by decide) m_fl_X10_11 (fun _ h9 => h9) rfl dX10_honey_12 ?_
    refine lv_iload_n hx hb dX10_honey_15 rfl (lv_at hl 1 rfl) ?_
    rcases btf (eqb (A 0 (ix s)) 0) with h_3 | h_3
    · have z_4 := fun lo hi => fit_0 (A := A) lo hi h_3
      have t_5 : tv nn (A 0 (ix s)) := (hS.tsh h_1)
      refine g_aald hx hb hK hI 1 hS.2.2.2.2.1 rfl (sh_in h_1) dX10_honey_16 ?_
      refine W.eq (g2 := F0 mI 17 ls [.null]) (by rw [show shf aa A (Int32.toNatClampNeg s) = adr aa (A 0 (ix s)) from shf_at h_1, adr_n h_3]; rfl) ?_
      refine g_callS (own := RX10) (index := 54) (n := 1) hx hb hml hown hts (c_X10_asHive_n l E b0 _) m_ml_X10_54 m_st_X10_asHive m_in_X10 m_co_X10_asHive (by decide +kernel) ⟨Nat.le_of_ble_eq_true rfl, Nat.le_of_ble_eq_true rfl⟩ ⟨by first | exact Nat.le_of_ble_eq_true rfl | (show _ ≤ 2; omega), by first | exact Nat.le_of_ble_eq_true rfl | (show _ ≤ 160; omega)⟩ rfl hl.1 rfl (Nat.le_of_ble_eq_true rfl) dX10_honey_17 hK hI (fun r G1 H1 L1 hp hI => ?_)
      obtain ⟨v, rfl, ev, hGe⟩ := hp
      subst ev
      rw [hGe] at hI
      refine W.eq (g2 := F0 mI 20 ls [.null]) rfl ?_
      refine g_callS (own := RX10) (index := 90) (n := 1) hx hb hml hown hts (c_X10_rowOf_n l E b0 _) m_ml_X10_90 m_st_X10_rowOf m_in_X10 m_co_X10_rowOf (by decide +kernel) ⟨Nat.le_of_ble_eq_true rfl, Nat.le_of_ble_eq_true rfl⟩ ⟨by first | exact Nat.le_of_ble_eq_true rfl | (show _ ≤ 2; omega), by first | exact Nat.le_of_ble_eq_true rfl | (show _ ≤ 160; omega)⟩ rfl hl.1 rfl (Nat.le_of_ble_eq_true rfl) dX10_honey_20 hK hI (fun r G1 H1 L1 hp hI => ?_)
      obtain ⟨v, rfl, ev, hGe⟩ := hp
      subst ev
      rw [hGe] at hI
      refine W.eq (g2 := F0 mI 23 ls [.null]) rfl ?_
      refine lv_astoreN (lv' := [(4, .null), (0, .ref (aa 0)), (1, .int s), (2, .int i), (3, .int v)]) hx hb dX10_honey_23 hl (by decide) rfl (fun ls hl => ?_)
      refine lv_aloadN hx hb dX10_honey_25 (lv_at hl 0 rfl) ?_
      refine lv_ifnonnullN hx hb dX10_honey_27 ?_
      refine lv_aload_n hx hb dX10_honey_30 rfl (lv_at hl 1 rfl) ?_
      refine lv_aload_n hx hb dX10_honey_31 rfl (lv_at hl 1 rfl) ?_
      refine g_get (index := 11) (ci := 8) hx hb hts inlX10 hown hK hI hS.2.2.2.1 rfl 0 (by decide) m_fl_X10_11 (fun _ h9 => h9) rfl dX10_honey_32 ?_
      refine lv_iload_n hx hb dX10_honey_35 rfl (lv_at hl 2 rfl) ?_
      refine g_aald hx hb hK hI 1 hS.2.2.2.2.1 rfl (sh_in h_1) dX10_honey_36 ?_
      refine W.eq (g2 := F0 mI 37 ls [.null, .ref (aa 0)]) (by rw [show shf aa A (Int32.toNatClampNeg s) = adr aa (A 0 (ix s)) from shf_at h_1, adr_n h_3]; rfl) ?_
      refine g_callS (own := RX10) (index := 66) (n := 1) hx hb hml hown hts (c_X10_castOrNull_n l E b0 _) m_ml_X10_66 m_st_X10_castOrNull m_in_X10 m_co_X10_castOrNull (by decide +kernel) ⟨Nat.le_of_ble_eq_true rfl, Nat.le_of_ble_eq_true rfl⟩ ⟨by first | exact Nat.le_of_ble_eq_true rfl | (show _ ≤ 2; omega), by first | exact Nat.le_of_ble_eq_true rfl | (show _ ≤ 160; omega)⟩ rfl hl.1 rfl (Nat.le_of_ble_eq_true rfl) dX10_honey_37 hK hI (fun r G1 H1 L1 hp hI => ?_)
      obtain ⟨v, rfl, ev, hGe⟩ := hp
      subst ev
      rw [hGe] at hI
      refine W.eq (g2 := F0 mI 40 ls [.int 1, .ref (aa 0)]) rfl ?_
      refine g_callV (own := RX10) (index := 96) (n := 1) hx hb hml hown hts (c_X10_refuseLong l E b0 _ _ aa _ nn hS hn 1 (vp_in_iff.mpr (by decide))) hS.2.2.2.1 rfl rfl m_ml_X10_96 m_im_X10_refuseLong m_se_X10_X10_refuseLong_X10_refuseLong m_in_X10 m_co_X10_refuseLong (by decide +kernel) ⟨Nat.le_of_ble_eq_true rfl, Nat.le_of_ble_eq_true rfl⟩ ⟨by first | exact Nat.le_of_ble_eq_true rfl | (show _ ≤ 2; omega), by first | exact Nat.le_of_ble_eq_true rfl | (show _ ≤ 160; omega)⟩ rfl hl.1 rfl (Nat.le_of_ble_eq_true rfl) dX10_honey_40 hK hI (fun r G1 H1 L1 hp hI => ?_)
      obtain ⟨v, rfl, ev, hS⟩ := hp
      subst ev
      refine W.eq (g2 := F0 mI 43 ls [.long (-9223372036854775708 + ((-10 - 1) : Int32).toInt64)]) rfl ?_
      have e9 : sp_honey A s i v = ((-9223372036854775708 + ((-10 - 1) : Int32).toInt64), (rfs A 1)) := by
        simp only [sp_honey, rfi, rfj, wHv, wRw, wSl, h_1, h_3, z_4, eqb_00, eqb_10, eqb_20, eqb_30, eqb_50, eqb_11, eqb_21, reduceIte, Bool.false_eq_true, not_true_eq_false, not_false_eq_true, ite_self]
      exact g_lret hx hb hr hlocks hI ⟨_, rfl, by rw [e9], aa, nn, by omega, by rw [e9]; exact hS⟩ dX10_honey_43 (by omega) (by omega)
    · have _ := 0
      have t_6 : tv nn (A 0 (ix s)) := (hS.tsh h_1)
      refine g_aald hx hb hK hI 1 hS.2.2.2.2.1 rfl (sh_in h_1) dX10_honey_16 ?_
      refine W.eq (g2 := F0 mI 17 ls [.ref (aa (4 * ix (A 0 (ix s))))]) (by rw [show shf aa A (Int32.toNatClampNeg s) = adr aa (A 0 (ix s)) from shf_at h_1, adr_s h_3]; rfl) ?_
      rcases btf (fit A (A 0 (ix s)) 6 7) with h_7 | h_7
      · have _ := 0
        refine g_callS (own := RX10) (index := 54) (n := 1) hx hb hml hown hts (c_X10_asHive_y l E b0 _ (aa (4 * ix (A 0 (ix s)))) _ _ (hS.at hn t_6 h_3) (cix_in _) (hS.gs hn t_6 h_3 5 (by decide) h_7)) m_ml_X10_54 m_st_X10_asHive m_in_X10 m_co_X10_asHive (by decide +kernel) ⟨Nat.le_of_ble_eq_true rfl, Nat.le_of_ble_eq_true rfl⟩ ⟨by first | exact Nat.le_of_ble_eq_true rfl | (show _ ≤ 2; omega), by first | exact Nat.le_of_ble_eq_true rfl | (show _ ≤ 160; omega)⟩ rfl hl.1 rfl (Nat.le_of_ble_eq_true rfl) dX10_honey_17 hK hI (fun r G1 H1 L1 hp hI => ?_)
        obtain ⟨v, rfl, ev, hGe⟩ := hp
        subst ev
        rw [hGe] at hI
        refine W.eq (g2 := F0 mI 20 ls [.ref (aa (4 * ix (A 0 (ix s))))]) rfl ?_
        rcases Classical.em ((A 5 (ix (A 0 (ix s)))) < 0) with h_8 | h_8
        · have _ := 0
          refine g_callS (own := RX10) (index := 90) (n := 1) hx hb hml hown hts (c_X10_rowOf_r l E b0 _ (aa (4 * ix (A 0 (ix s)))) _ _ _ _ _ _ (hS.hv hn t_6 h_3 h_7)) m_ml_X10_90 m_st_X10_rowOf m_in_X10 m_co_X10_rowOf (by decide +kernel) ⟨Nat.le_of_ble_eq_true rfl, Nat.le_of_ble_eq_true rfl⟩ ⟨by first | exact Nat.le_of_ble_eq_true rfl | (show _ ≤ 2; omega), by first | exact Nat.le_of_ble_eq_true rfl | (show _ ≤ 160; omega)⟩ rfl hl.1 rfl (Nat.le_of_ble_eq_true rfl) dX10_honey_20 hK hI (fun r G1 H1 L1 hp hI => ?_)
          obtain ⟨v, rfl, ev, hGe⟩ := hp
          rw [rwo_n h_8] at ev
          subst ev
          rw [hGe] at hI
          refine W.eq (g2 := F0 mI 23 ls [.null]) rfl ?_
          refine lv_astoreN (lv' := [(4, .null), (0, .ref (aa 0)), (1, .int s), (2, .int i), (3, .int v)]) hx hb dX10_honey_23 hl (by decide) rfl (fun ls hl => ?_)
          refine lv_aloadN hx hb dX10_honey_25 (lv_at hl 0 rfl) ?_
          refine lv_ifnonnullN hx hb dX10_honey_27 ?_
          refine lv_aload_n hx hb dX10_honey_30 rfl (lv_at hl 1 rfl) ?_
          refine lv_aload_n hx hb dX10_honey_31 rfl (lv_at hl 1 rfl) ?_
          refine g_get (index := 11) (ci := 8) hx hb hts inlX10 hown hK hI hS.2.2.2.1 rfl 0 (by decide) m_fl_X10_11 (fun _ h9 => h9) rfl dX10_honey_32 ?_
          refine lv_iload_n hx hb dX10_honey_35 rfl (lv_at hl 2 rfl) ?_
          refine g_aald hx hb hK hI 1 hS.2.2.2.2.1 rfl (sh_in h_1) dX10_honey_36 ?_
          refine W.eq (g2 := F0 mI 37 ls [.ref (aa (4 * ix (A 0 (ix s)))), .ref (aa 0)]) (by rw [show shf aa A (Int32.toNatClampNeg s) = adr aa (A 0 (ix s)) from shf_at h_1, adr_s h_3]; rfl) ?_
          refine g_callS (own := RX10) (index := 66) (n := 1) hx hb hml hown hts (c_X10_castOrNull_y l E b0 _ (aa (4 * ix (A 0 (ix s)))) _ _ (hS.at hn t_6 h_3) (cix_in _) (hS.gs hn t_6 h_3 5 (by decide) h_7)) m_ml_X10_66 m_st_X10_castOrNull m_in_X10 m_co_X10_castOrNull (by decide +kernel) ⟨Nat.le_of_ble_eq_true rfl, Nat.le_of_ble_eq_true rfl⟩ ⟨by first | exact Nat.le_of_ble_eq_true rfl | (show _ ≤ 2; omega), by first | exact Nat.le_of_ble_eq_true rfl | (show _ ≤ 160; omega)⟩ rfl hl.1 rfl (Nat.le_of_ble_eq_true rfl) dX10_honey_37 hK hI (fun r G1 H1 L1 hp hI => ?_)
          obtain ⟨v, rfl, ev, hGe⟩ := hp
          subst ev
          rw [hGe] at hI
          refine W.eq (g2 := F0 mI 40 ls [.int 1, .ref (aa 0)]) rfl ?_
          refine g_callV (own := RX10) (index := 96) (n := 1) hx hb hml hown hts (c_X10_refuseLong l E b0 _ _ aa _ nn hS hn 1 (vp_in_iff.mpr (by decide))) hS.2.2.2.1 rfl rfl m_ml_X10_96 m_im_X10_refuseLong m_se_X10_X10_refuseLong_X10_refuseLong m_in_X10 m_co_X10_refuseLong (by decide +kernel) ⟨Nat.le_of_ble_eq_true rfl, Nat.le_of_ble_eq_true rfl⟩ ⟨by first | exact Nat.le_of_ble_eq_true rfl | (show _ ≤ 2; omega), by first | exact Nat.le_of_ble_eq_true rfl | (show _ ≤ 160; omega)⟩ rfl hl.1 rfl (Nat.le_of_ble_eq_true rfl) dX10_honey_40 hK hI (fun r G1 H1 L1 hp hI => ?_)
          obtain ⟨v, rfl, ev, hS⟩ := hp
          subst ev
          refine W.eq (g2 := F0 mI 43 ls [.long (-9223372036854775708 + ((-10 - 1) : Int32).toInt64)]) rfl ?_
          have e9 : sp_honey A s i v = ((-9223372036854775708 + ((-10 - 1) : Int32).toInt64), (rfs A 1)) := by
            simp only [sp_honey, rfi, rfj, wHv, wRw, wSl, h_1, h_3, h_7, h_8, eqb_00, eqb_10, eqb_20, eqb_30, eqb_50, eqb_11, eqb_21, reduceIte, Bool.false_eq_true, not_true_eq_false, not_false_eq_true, ite_self]
          exact g_lret hx hb hr hlocks hI ⟨_, rfl, by rw [e9], aa, nn, by omega, by rw [e9]; exact hS⟩ dX10_honey_43 (by omega) (by omega)
        · have _ := 0
          refine g_callS (own := RX10) (index := 90) (n := 1) hx hb hml hown hts (c_X10_rowOf_r l E b0 _ (aa (4 * ix (A 0 (ix s)))) _ _ _ _ _ _ (hS.hv hn t_6 h_3 h_7)) m_ml_X10_90 m_st_X10_rowOf m_in_X10 m_co_X10_rowOf (by decide +kernel) ⟨Nat.le_of_ble_eq_true rfl, Nat.le_of_ble_eq_true rfl⟩ ⟨by first | exact Nat.le_of_ble_eq_true rfl | (show _ ≤ 2; omega), by first | exact Nat.le_of_ble_eq_true rfl | (show _ ≤ 160; omega)⟩ rfl hl.1 rfl (Nat.le_of_ble_eq_true rfl) dX10_honey_20 hK hI (fun r G1 H1 L1 hp hI => ?_)
          obtain ⟨v, rfl, ev, hGe⟩ := hp
          rw [rwo_s h_8] at ev
          subst ev
          rw [hGe] at hI
          refine W.eq (g2 := F0 mI 23 ls [.ref (aa (4 * ix (A 0 (ix s)) + 1))]) rfl ?_
          refine lv_astore (lv' := [(4, .ref (aa (4 * ix (A 0 (ix s)) + 1))), (0, .ref (aa 0)), (1, .int s), (2, .int i), (3, .int v)]) hx hb dX10_honey_23 hl (by decide) rfl (fun ls hl => ?_)
          refine lv_aload hx hb dX10_honey_25 (lv_at hl 0 rfl) ?_
          refine lv_ifnonnull (tgt := 44) hx hb dX10_honey_27 (by decide) ?_
          refine lv_iload_n hx hb dX10_honey_44 rfl (lv_at hl 3 rfl) ?_
          refine lv_aload hx hb dX10_honey_45 (lv_at hl 0 rfl) ?_
          refine g_alen hx hb hK hI 2 (hS.rw' hn t_6 h_3 h_8) rfl (nIix h_8) dX10_honey_47 ?_
          refine g_callS (own := RX10) (index := 82) (n := 2) hx hb hml hown hts (c_X10_isIndex l E b0 _ i (A 5 (ix (A 0 (ix s)))) h_8) m_ml_X10_82 m_st_X10_isIndex m_in_X10 m_co_X10_isIndex (by decide +kernel) ⟨Nat.le_of_ble_eq_true rfl, Nat.le_of_ble_eq_true rfl⟩ ⟨by first | exact Nat.le_of_ble_eq_true rfl | (show _ ≤ 2; omega), by first | exact Nat.le_of_ble_eq_true rfl | (show _ ≤ 160; omega)⟩ rfl hl.1 rfl (Nat.le_of_ble_eq_true rfl) dX10_honey_48 hK hI (fun r G1 H1 L1 hp hI => ?_)
          obtain ⟨v, rfl, hGe, ⟨h_9, rfl⟩ | ⟨h_9, rfl⟩⟩ := hp
          · rw [hGe] at hI
            refine W.eq (g2 := F0 mI 51 ls [.int 1]) rfl ?_
            refine lv_if_ne (tgt := 60) hx hb dX10_honey_51 (by decide) (fun _ => ?_) (fun c_10 => absurd c_10 (by decide))
            refine lv_aload hx hb dX10_honey_60 (lv_at hl 0 rfl) ?_
            refine lv_iload_n hx hb dX10_honey_62 rfl (lv_at hl 3 rfl) ?_
            rcases btf (eqb (A 6 (ix ((30 * (A 0 (ix s))) + i))) 0) with h_11 | h_11
            · have z_12 := fun lo hi => fit_0 (A := A) lo hi h_11
              have t_13 : tv nn (A 6 (ix ((30 * (A 0 (ix s))) + i))) := (hS.tsl hn t_6 h_8 h_9)
              refine g_aald hx hb hK hI 2 (hS.rw' hn t_6 h_3 h_8) rfl (hS.slin hn t_6 h_8 h_9) dX10_honey_63 ?_
              refine W.eq (g2 := F0 mI 64 ls [.null]) (by rw [show rwf aa A (ix (A 0 (ix s))) (Int32.toNatClampNeg i) = adr aa (A 6 (ix ((30 * (A 0 (ix s))) + i))) from hS.slv hn t_6 h_8 h_9, adr_n h_11]; rfl) ?_
              refine lv_astoreN (lv' := [(5, .null), (4, .ref (aa (4 * ix (A 0 (ix s)) + 1))), (0, .ref (aa 0)), (1, .int s), (2, .int i), (3, .int v)]) hx hb dX10_honey_64 hl (by decide) rfl (fun ls hl => ?_)
              refine lv_aloadN hx hb dX10_honey_66 (lv_at hl 0 rfl) ?_
              refine lv_ifnonnullN hx hb dX10_honey_68 ?_
              refine lv_aload_n hx hb dX10_honey_71 rfl (lv_at hl 2 rfl) ?_
              refine lv_iconst (v := 1) hx hb dX10_honey_72 (by decide) ?_
              refine g_callV (own := RX10) (index := 96) (n := 1) hx hb hml hown hts (c_X10_refuseLong l E b0 _ _ aa _ nn hS hn 1 (vp_in_iff.mpr (by decide))) hS.2.2.2.1 rfl rfl m_ml_X10_96 m_im_X10_refuseLong m_se_X10_X10_refuseLong_X10_refuseLong m_in_X10 m_co_X10_refuseLong (by decide +kernel) ⟨Nat.le_of_ble_eq_true rfl, Nat.le_of_ble_eq_true rfl⟩ ⟨by first | exact Nat.le_of_ble_eq_true rfl | (show _ ≤ 2; omega), by first | exact Nat.le_of_ble_eq_true rfl | (show _ ≤ 160; omega)⟩ rfl hl.1 rfl (Nat.le_of_ble_eq_true rfl) dX10_honey_73 hK hI (fun r G1 H1 L1 hp hI => ?_)
              obtain ⟨v, rfl, ev, hS⟩ := hp
              subst ev
              refine W.eq (g2 := F0 mI 76 ls [.long (-9223372036854775708 + ((-10 - 1) : Int32).toInt64)]) rfl ?_
              have e9 : sp_honey A s i v = ((-9223372036854775708 + ((-10 - 1) : Int32).toInt64), (rfs A 1)) := by
                simp only [sp_honey, rfi, rfj, wHv, wRw, wSl, h_1, h_3, h_7, h_8, h_9, h_11, z_12, eqb_00, eqb_10, eqb_20, eqb_30, eqb_50, eqb_11, eqb_21, reduceIte, Bool.false_eq_true, not_true_eq_false, not_false_eq_true, ite_self]
              exact g_lret hx hb hr hlocks hI ⟨_, rfl, by rw [e9], aa, nn, by omega, by rw [e9]; exact hS⟩ dX10_honey_76 (by omega) (by omega)
            · have _ := 0
              have t_14 : tv nn (A 6 (ix ((30 * (A 0 (ix s))) + i))) := (hS.tsl hn t_6 h_8 h_9)
              have f_15 := hS.fsl hn t_6 h_3 h_8 h_9
              refine g_aald hx hb hK hI 2 (hS.rw' hn t_6 h_3 h_8) rfl (hS.slin hn t_6 h_8 h_9) dX10_honey_63 ?_
              refine W.eq (g2 := F0 mI 64 ls [.ref (aa (4 * ix (A 6 (ix ((30 * (A 0 (ix s))) + i)))))]) (by rw [show rwf aa A (ix (A 0 (ix s))) (Int32.toNatClampNeg i) = adr aa (A 6 (ix ((30 * (A 0 (ix s))) + i))) from hS.slv hn t_6 h_8 h_9, adr_s h_11]; rfl) ?_
              refine lv_astore (lv' := [(5, .ref (aa (4 * ix (A 6 (ix ((30 * (A 0 (ix s))) + i)))))), (4, .ref (aa (4 * ix (A 0 (ix s)) + 1))), (0, .ref (aa 0)), (1, .int s), (2, .int i), (3, .int v)]) hx hb dX10_honey_64 hl (by decide) rfl (fun ls hl => ?_)
              refine lv_aload hx hb dX10_honey_66 (lv_at hl 0 rfl) ?_
              refine lv_ifnonnull (tgt := 77) hx hb dX10_honey_68 (by decide) ?_
              refine lv_aload hx hb dX10_honey_77 (lv_at hl 0 rfl) ?_
              refine lv_dup hx hb dX10_honey_79 rfl ?_
              rcases fit_2 (A := A) (k := 0) (m := 1) (by decide) h_11 f_15 with h_16 | h_16
              · have _ := 0
                refine g_get (index := 100) (ci := 4) hx hb hts inlX4 hown hK hI (((hS.at hn t_14 h_11)).trans (congrArg some (thc_0 h_16))) rfl 1 (by decide) m_fl_X10_100 (fun _ h9 => h9) rfl dX10_honey_80 ?_
                refine lv_iload_n hx hb dX10_honey_83 rfl (lv_at hl 5 rfl) ?_
                refine lv_iadd hx hb dX10_honey_84 ?_
                refine g_put (index := 100) (ci := 4) hx hb hts inlX4 tyX4 tyX4_ok nmX4 hown hK hI (((hS.at hn t_14 h_11)).trans (congrArg some (thc_0 h_16))) rfl 1 (by decide) m_fl_X10_100 (fun _ h9 => h9) rfl rfl rfl (Nat.le_of_ble_eq_true rfl) dX10_honey_85 (fun H1 L1 hI => ?_)
                have hS := SW.p34 hS 3 (by decide) (ix (A 6 (ix ((30 * (A 0 (ix s))) + i)))) (t_14.pos hn h_11) (t_14.ixle hn).1 ((A 3 (ix (A 6 (ix ((30 * (A 0 (ix s))) + i))))) + v) (p34y_0_3 h_16)
                refine W.eq (g2 := F0 mI 88 ls []) rfl ?_
                refine lv_aload hx hb dX10_honey_88 (lv_at hl 0 rfl) ?_
                refine g_get (index := 100) (ci := 4) hx hb hts inlX4 hown hK hI (((hS.at hn t_14 h_11)).trans (congrArg some (thc_0 h_16))) rfl 1 (by decide) m_fl_X10_100 (fun _ h9 => h9) rfl dX10_honey_90 ?_
                refine lv_i2l hx hb dX10_honey_93 rfl ?_
                have e9 : sp_honey A s i v = (((((u2 A 3 (ix (A 6 (ix ((30 * (A 0 (ix s))) + i)))) ((A 3 (ix (A 6 (ix ((30 * (A 0 (ix s))) + i))))) + v)) 3 (ix (A 6 (ix ((30 * (A 0 (ix s))) + i))))) : Int32).toInt64), (u2 A 3 (ix (A 6 (ix ((30 * (A 0 (ix s))) + i)))) ((A 3 (ix (A 6 (ix ((30 * (A 0 (ix s))) + i))))) + v))) := by
                  simp only [sp_honey, rfi, rfj, wHv, wRw, wSl, h_1, h_3, h_7, h_8, h_9, h_11, h_16, eqb_00, eqb_10, eqb_20, eqb_30, eqb_50, eqb_11, eqb_21, reduceIte, Bool.false_eq_true, not_true_eq_false, not_false_eq_true, ite_self]
                exact g_lret hx hb hr hlocks hI ⟨_, rfl, by rw [e9], aa, nn, by omega, by rw [e9]; exact hS⟩ dX10_honey_94 (by omega) (by omega)
              · have _ := 0
                refine g_get (index := 100) (ci := 1) hx hb hts inlX1 hown hK hI (((hS.at hn t_14 h_11)).trans (congrArg some (thc_1 h_16))) rfl 0 (by decide) m_fl_X10_100 (fun _ h9 => h9) rfl dX10_honey_80 ?_
                refine lv_iload_n hx hb dX10_honey_83 rfl (lv_at hl 5 rfl) ?_
                refine lv_iadd hx hb dX10_honey_84 ?_
                refine g_put (index := 100) (ci := 1) hx hb hts inlX1 tyX1 tyX1_ok nmX1 hown hK hI (((hS.at hn t_14 h_11)).trans (congrArg some (thc_1 h_16))) rfl 0 (by decide) m_fl_X10_100 (fun _ h9 => h9) rfl rfl rfl (Nat.le_of_ble_eq_true rfl) dX10_honey_85 (fun H1 L1 hI => ?_)
                have hS := SW.p34 hS 3 (by decide) (ix (A 6 (ix ((30 * (A 0 (ix s))) + i)))) (t_14.pos hn h_11) (t_14.ixle hn).1 ((A 3 (ix (A 6 (ix ((30 * (A 0 (ix s))) + i))))) + v) (p34y_1_3 h_16)
                refine W.eq (g2 := F0 mI 88 ls []) rfl ?_
                refine lv_aload hx hb dX10_honey_88 (lv_at hl 0 rfl) ?_
                refine g_get (index := 100) (ci := 1) hx hb hts inlX1 hown hK hI (((hS.at hn t_14 h_11)).trans (congrArg some (thc_1 h_16))) rfl 0 (by decide) m_fl_X10_100 (fun _ h9 => h9) rfl dX10_honey_90 ?_
                refine lv_i2l hx hb dX10_honey_93 rfl ?_
                have e9 : sp_honey A s i v = (((((u2 A 3 (ix (A 6 (ix ((30 * (A 0 (ix s))) + i)))) ((A 3 (ix (A 6 (ix ((30 * (A 0 (ix s))) + i))))) + v)) 3 (ix (A 6 (ix ((30 * (A 0 (ix s))) + i))))) : Int32).toInt64), (u2 A 3 (ix (A 6 (ix ((30 * (A 0 (ix s))) + i)))) ((A 3 (ix (A 6 (ix ((30 * (A 0 (ix s))) + i))))) + v))) := by
                  simp only [sp_honey, rfi, rfj, wHv, wRw, wSl, h_1, h_3, h_7, h_8, h_9, h_11, h_16, eqb_00, eqb_10, eqb_20, eqb_30, eqb_50, eqb_11, eqb_21, reduceIte, Bool.false_eq_true, not_true_eq_false, not_false_eq_true, ite_self]
                exact g_lret hx hb hr hlocks hI ⟨_, rfl, by rw [e9], aa, nn, by omega, by rw [e9]; exact hS⟩ dX10_honey_94 (by omega) (by omega)
          · rw [hGe] at hI
            refine W.eq (g2 := F0 mI 51 ls [.int 0]) rfl ?_
            refine lv_if_ne (tgt := 60) hx hb dX10_honey_51 (by decide) (fun c_17 => absurd c_17 (by decide)) (fun _ => ?_)
            refine lv_aload_n hx hb dX10_honey_54 rfl (lv_at hl 1 rfl) ?_
            refine lv_iconst (v := 3) hx hb dX10_honey_55 (by decide) ?_
            refine g_callV (own := RX10) (index := 96) (n := 1) hx hb hml hown hts (c_X10_refuseLong l E b0 _ _ aa _ nn hS hn 3 (vp_in_iff.mpr (by decide))) hS.2.2.2.1 rfl rfl m_ml_X10_96 m_im_X10_refuseLong m_se_X10_X10_refuseLong_X10_refuseLong m_in_X10 m_co_X10_refuseLong (by decide +kernel) ⟨Nat.le_of_ble_eq_true rfl, Nat.le_of_ble_eq_true rfl⟩ ⟨by first | exact Nat.le_of_ble_eq_true rfl | (show _ ≤ 2; omega), by first | exact Nat.le_of_ble_eq_true rfl | (show _ ≤ 160; omega)⟩ rfl hl.1 rfl (Nat.le_of_ble_eq_true rfl) dX10_honey_56 hK hI (fun r G1 H1 L1 hp hI => ?_)
            obtain ⟨v, rfl, ev, hS⟩ := hp
            subst ev
            refine W.eq (g2 := F0 mI 59 ls [.long (-9223372036854775708 + ((-10 - 3) : Int32).toInt64)]) rfl ?_
            have e9 : sp_honey A s i v = ((-9223372036854775708 + ((-10 - 3) : Int32).toInt64), (rfs A 3)) := by
              simp only [sp_honey, rfi, rfj, wHv, wRw, wSl, h_1, h_3, h_7, h_8, h_9, eqb_00, eqb_10, eqb_20, eqb_30, eqb_50, eqb_11, eqb_21, reduceIte, Bool.false_eq_true, not_true_eq_false, not_false_eq_true, ite_self]
            exact g_lret hx hb hr hlocks hI ⟨_, rfl, by rw [e9], aa, nn, by omega, by rw [e9]; exact hS⟩ dX10_honey_59 (by omega) (by omega)
      · have _ := 0
        refine g_callS (own := RX10) (index := 54) (n := 1) hx hb hml hown hts (c_X10_asHive_f l E b0 _ (aa (4 * ix (A 0 (ix s)))) _ _ (hS.at hn t_6 h_3) (cix_in _) (hS.gs hn t_6 h_3 5 (by decide) h_7)) m_ml_X10_54 m_st_X10_asHive m_in_X10 m_co_X10_asHive (by decide +kernel) ⟨Nat.le_of_ble_eq_true rfl, Nat.le_of_ble_eq_true rfl⟩ ⟨by first | exact Nat.le_of_ble_eq_true rfl | (show _ ≤ 2; omega), by first | exact Nat.le_of_ble_eq_true rfl | (show _ ≤ 160; omega)⟩ rfl hl.1 rfl (Nat.le_of_ble_eq_true rfl) dX10_honey_17 hK hI (fun r G1 H1 L1 hp hI => ?_)
        obtain ⟨v, rfl, ev, hGe⟩ := hp
        subst ev
        rw [hGe] at hI
        refine W.eq (g2 := F0 mI 20 ls [.null]) rfl ?_
        refine g_callS (own := RX10) (index := 90) (n := 1) hx hb hml hown hts (c_X10_rowOf_n l E b0 _) m_ml_X10_90 m_st_X10_rowOf m_in_X10 m_co_X10_rowOf (by decide +kernel) ⟨Nat.le_of_ble_eq_true rfl, Nat.le_of_ble_eq_true rfl⟩ ⟨by first | exact Nat.le_of_ble_eq_true rfl | (show _ ≤ 2; omega), by first | exact Nat.le_of_ble_eq_true rfl | (show _ ≤ 160; omega)⟩ rfl hl.1 rfl (Nat.le_of_ble_eq_true rfl) dX10_honey_20 hK hI (fun r G1 H1 L1 hp hI => ?_)
        obtain ⟨v, rfl, ev, hGe⟩ := hp
        subst ev
        rw [hGe] at hI
        refine W.eq (g2 := F0 mI 23 ls [.null]) rfl ?_
        refine lv_astoreN (lv' := [(4, .null), (0, .ref (aa 0)), (1, .int s), (2, .int i), (3, .int v)]) hx hb dX10_honey_23 hl (by decide) rfl (fun ls hl => ?_)
        refine lv_aloadN hx hb dX10_honey_25 (lv_at hl 0 rfl) ?_
        refine lv_ifnonnullN hx hb dX10_honey_27 ?_
        refine lv_aload_n hx hb dX10_honey_30 rfl (lv_at hl 1 rfl) ?_
        refine lv_aload_n hx hb dX10_honey_31 rfl (lv_at hl 1 rfl) ?_
        refine g_get (index := 11) (ci := 8) hx hb hts inlX10 hown hK hI hS.2.2.2.1 rfl 0 (by decide) m_fl_X10_11 (fun _ h9 => h9) rfl dX10_honey_32 ?_
        refine lv_iload_n hx hb dX10_honey_35 rfl (lv_at hl 2 rfl) ?_
        refine g_aald hx hb hK hI 1 hS.2.2.2.2.1 rfl (sh_in h_1) dX10_honey_36 ?_
        refine W.eq (g2 := F0 mI 37 ls [.ref (aa (4 * ix (A 0 (ix s)))), .ref (aa 0)]) (by rw [show shf aa A (Int32.toNatClampNeg s) = adr aa (A 0 (ix s)) from shf_at h_1, adr_s h_3]; rfl) ?_
        refine g_callS (own := RX10) (index := 66) (n := 1) hx hb hml hown hts (c_X10_castOrNull_f l E b0 _ (aa (4 * ix (A 0 (ix s)))) _ _ (hS.at hn t_6 h_3) (cix_in _) (hS.gs hn t_6 h_3 5 (by decide) h_7)) m_ml_X10_66 m_st_X10_castOrNull m_in_X10 m_co_X10_castOrNull (by decide +kernel) ⟨Nat.le_of_ble_eq_true rfl, Nat.le_of_ble_eq_true rfl⟩ ⟨by first | exact Nat.le_of_ble_eq_true rfl | (show _ ≤ 2; omega), by first | exact Nat.le_of_ble_eq_true rfl | (show _ ≤ 160; omega)⟩ rfl hl.1 rfl (Nat.le_of_ble_eq_true rfl) dX10_honey_37 hK hI (fun r G1 H1 L1 hp hI => ?_)
        obtain ⟨v, rfl, ev, hGe⟩ := hp
        subst ev
        rw [hGe] at hI
        refine W.eq (g2 := F0 mI 40 ls [.int 5, .ref (aa 0)]) rfl ?_
        refine g_callV (own := RX10) (index := 96) (n := 1) hx hb hml hown hts (c_X10_refuseLong l E b0 _ _ aa _ nn hS hn 5 (vp_in_iff.mpr (by decide))) hS.2.2.2.1 rfl rfl m_ml_X10_96 m_im_X10_refuseLong m_se_X10_X10_refuseLong_X10_refuseLong m_in_X10 m_co_X10_refuseLong (by decide +kernel) ⟨Nat.le_of_ble_eq_true rfl, Nat.le_of_ble_eq_true rfl⟩ ⟨by first | exact Nat.le_of_ble_eq_true rfl | (show _ ≤ 2; omega), by first | exact Nat.le_of_ble_eq_true rfl | (show _ ≤ 160; omega)⟩ rfl hl.1 rfl (Nat.le_of_ble_eq_true rfl) dX10_honey_40 hK hI (fun r G1 H1 L1 hp hI => ?_)
        obtain ⟨v, rfl, ev, hS⟩ := hp
        subst ev
        refine W.eq (g2 := F0 mI 43 ls [.long (-9223372036854775708 + ((-10 - 5) : Int32).toInt64)]) rfl ?_
        have e9 : sp_honey A s i v = ((-9223372036854775708 + ((-10 - 5) : Int32).toInt64), (rfs A 5)) := by
          simp only [sp_honey, rfi, rfj, wHv, wRw, wSl, h_1, h_3, h_7, eqb_00, eqb_10, eqb_20, eqb_30, eqb_50, eqb_11, eqb_21, reduceIte, Bool.false_eq_true, not_true_eq_false, not_false_eq_true, ite_self]
        exact g_lret hx hb hr hlocks hI ⟨_, rfl, by rw [e9], aa, nn, by omega, by rw [e9]; exact hS⟩ dX10_honey_43 (by omega) (by omega)
  · rw [hGe] at hI
    refine W.eq (g2 := F0 mI 4 ls [.int 0]) rfl ?_
    refine lv_if_ne (tgt := 11) hx hb dX10_honey_4 (by decide) (fun c_18 => absurd c_18 (by decide)) (fun _ => ?_)
    refine lv_ldc2 hx hb hown (hts _ m_kl_X10_94) dX10_honey_7 ?_
    have e9 : sp_honey A s i v = ((-9223372036854775808), A) := by
      simp only [sp_honey, rfi, rfj, wHv, wRw, wSl, h_1, eqb_00, eqb_10, eqb_20, eqb_30, eqb_50, eqb_11, eqb_21, reduceIte, Bool.false_eq_true, not_true_eq_false, not_false_eq_true, ite_self]
    exact g_lret hx hb hr hlocks hI ⟨_, rfl, by rw [e9], aa, nn, by omega, by rw [e9]; exact hS⟩ dX10_honey_10 (by omega) (by omega)
set_option maxHeartbeats 4000000 in
set_option maxRecDepth 100000 in
theorem c_X10_lay (l : Launch) (E : gE) (b0 : Nat) (G : gG) (x : Nat) (aa : Nat → Nat) (A : gA) (nn : Nat) (hS : SW E x aa A nn G) (hn : nn < 600) (s i n : Int32) : gM l yX10_lay cX10_lay 8 (some .long) 5 2 160 E b0 G [.ref x, .int s, .int i, .int n] (pL (fun v9 G1 => v9 = (sp_lay A s i n).1 ∧ ∃ aa1 n1, n1 ≤ nn + 1 ∧ SW E x aa1 (sp_lay A s i n).2 n1 G1)) := by
  obtain rfl : aa 0 = x := hS.2.2.1
  refine gM.of (by decide +kernel) (Nat.le_of_ble_eq_true rfl) ?_
  intro pP eP sP mI bP meth cP ls hx hb hr hml hown hlocks hnm hts hK hI hl
  have hl : lv_has ls 8 [(0, .ref (aa 0)), (1, .int s), (2, .int i), (3, .int n)] := hl
  have hown : sP.vm.findClass RX10 = some mI.cls := hown
  refine lv_iload_n hx hb dX10_lay_0 rfl (lv_at hl 1 rfl) ?_
  refine g_callS (own := RX10) (index := 23) (n := 1) hx hb hml hown hts (c_X10_isShelf l E b0 _ s) m_ml_X10_23 m_st_X10_isShelf m_in_X10 m_co_X10_isShelf (by decide +kernel) ⟨Nat.le_of_ble_eq_true rfl, Nat.le_of_ble_eq_true rfl⟩ ⟨by first | exact Nat.le_of_ble_eq_true rfl | (show _ ≤ 2; omega), by first | exact Nat.le_of_ble_eq_true rfl | (show _ ≤ 160; omega)⟩ rfl hl.1 rfl (Nat.le_of_ble_eq_true rfl) dX10_lay_1 hK hI (fun r G1 H1 L1 hp hI => ?_)
  obtain ⟨v, rfl, hGe, ⟨h_1, rfl⟩ | ⟨h_1, rfl⟩⟩ := hp
  · rw [hGe] at hI
    refine W.eq (g2 := F0 mI 4 ls [.int 1]) rfl ?_
    refine lv_if_ne (tgt := 11) hx hb dX10_lay_4 (by decide) (fun _ => ?_) (fun c_2 => absurd c_2 (by decide))
    refine lv_aload_n hx hb dX10_lay_11 rfl (lv_at hl 0 rfl) ?_
    refine g_get (index := 11) (ci := 8) hx hb hts inlX10 hown hK hI hS.2.2.2.1 rfl 0 (by decide) m_fl_X10_11 (fun _ h9 => h9) rfl dX10_lay_12 ?_
    refine lv_iload_n hx hb dX10_lay_15 rfl (lv_at hl 1 rfl) ?_
    rcases btf (eqb (A 0 (ix s)) 0) with h_3 | h_3
    · have z_4 := fun lo hi => fit_0 (A := A) lo hi h_3
      have t_5 : tv nn (A 0 (ix s)) := (hS.tsh h_1)
      refine g_aald hx hb hK hI 1 hS.2.2.2.2.1 rfl (sh_in h_1) dX10_lay_16 ?_
      refine W.eq (g2 := F0 mI 17 ls [.null]) (by rw [show shf aa A (Int32.toNatClampNeg s) = adr aa (A 0 (ix s)) from shf_at h_1, adr_n h_3]; rfl) ?_
      refine g_callS (own := RX10) (index := 54) (n := 1) hx hb hml hown hts (c_X10_asHive_n l E b0 _) m_ml_X10_54 m_st_X10_asHive m_in_X10 m_co_X10_asHive (by decide +kernel) ⟨Nat.le_of_ble_eq_true rfl, Nat.le_of_ble_eq_true rfl⟩ ⟨by first | exact Nat.le_of_ble_eq_true rfl | (show _ ≤ 2; omega), by first | exact Nat.le_of_ble_eq_true rfl | (show _ ≤ 160; omega)⟩ rfl hl.1 rfl (Nat.le_of_ble_eq_true rfl) dX10_lay_17 hK hI (fun r G1 H1 L1 hp hI => ?_)
      obtain ⟨v, rfl, ev, hGe⟩ := hp
      subst ev
      rw [hGe] at hI
      refine W.eq (g2 := F0 mI 20 ls [.null]) rfl ?_
      refine lv_astoreN (lv' := [(4, .null), (0, .ref (aa 0)), (1, .int s), (2, .int i), (3, .int n)]) hx hb dX10_lay_20 hl (by decide) rfl (fun ls hl => ?_)
      refine lv_aloadN hx hb dX10_lay_22 (lv_at hl 0 rfl) ?_
      refine lv_ifnullN (tgt := 35) hx hb dX10_lay_24 (by decide) ?_
      refine lv_aload_n hx hb dX10_lay_35 rfl (lv_at hl 1 rfl) ?_
      refine lv_aload_n hx hb dX10_lay_36 rfl (lv_at hl 1 rfl) ?_
      refine g_get (index := 11) (ci := 8) hx hb hts inlX10 hown hK hI hS.2.2.2.1 rfl 0 (by decide) m_fl_X10_11 (fun _ h9 => h9) rfl dX10_lay_37 ?_
      refine lv_iload_n hx hb dX10_lay_40 rfl (lv_at hl 2 rfl) ?_
      refine g_aald hx hb hK hI 1 hS.2.2.2.2.1 rfl (sh_in h_1) dX10_lay_41 ?_
      refine W.eq (g2 := F0 mI 42 ls [.null, .ref (aa 0)]) (by rw [show shf aa A (Int32.toNatClampNeg s) = adr aa (A 0 (ix s)) from shf_at h_1, adr_n h_3]; rfl) ?_
      refine g_callS (own := RX10) (index := 66) (n := 1) hx hb hml hown hts (c_X10_castOrNull_n l E b0 _) m_ml_X10_66 m_st_X10_castOrNull m_in_X10 m_co_X10_castOrNull (by decide +kernel) ⟨Nat.le_of_ble_eq_true rfl, Nat.le_of_ble_eq_true rfl⟩ ⟨by first | exact Nat.le_of_ble_eq_true rfl | (show _ ≤ 2; omega), by first | exact Nat.le_of_ble_eq_true rfl | (show _ ≤ 160; omega)⟩ rfl hl.1 rfl (Nat.le_of_ble_eq_true rfl) dX10_lay_42 hK hI (fun r G1 H1 L1 hp hI => ?_)
      obtain ⟨v, rfl, ev, hGe⟩ := hp
      subst ev
      rw [hGe] at hI
      refine W.eq (g2 := F0 mI 45 ls [.int 1, .ref (aa 0)]) rfl ?_
      refine g_callV (own := RX10) (index := 96) (n := 1) hx hb hml hown hts (c_X10_refuseLong l E b0 _ _ aa _ nn hS hn 1 (vp_in_iff.mpr (by decide))) hS.2.2.2.1 rfl rfl m_ml_X10_96 m_im_X10_refuseLong m_se_X10_X10_refuseLong_X10_refuseLong m_in_X10 m_co_X10_refuseLong (by decide +kernel) ⟨Nat.le_of_ble_eq_true rfl, Nat.le_of_ble_eq_true rfl⟩ ⟨by first | exact Nat.le_of_ble_eq_true rfl | (show _ ≤ 2; omega), by first | exact Nat.le_of_ble_eq_true rfl | (show _ ≤ 160; omega)⟩ rfl hl.1 rfl (Nat.le_of_ble_eq_true rfl) dX10_lay_45 hK hI (fun r G1 H1 L1 hp hI => ?_)
      obtain ⟨v, rfl, ev, hS⟩ := hp
      subst ev
      refine W.eq (g2 := F0 mI 48 ls [.long (-9223372036854775708 + ((-10 - 1) : Int32).toInt64)]) rfl ?_
      have e9 : sp_lay A s i n = ((-9223372036854775708 + ((-10 - 1) : Int32).toInt64), (rfs A 1)) := by
        simp only [sp_lay, ly1, ly2, rfi, rfj, wHv, wRw, wSl, h_1, h_3, z_4, eqb_00, eqb_10, eqb_20, eqb_30, eqb_50, eqb_11, eqb_21, reduceIte, Bool.false_eq_true, not_true_eq_false, not_false_eq_true, ite_self]
      exact g_lret hx hb hr hlocks hI ⟨_, rfl, by rw [e9], aa, nn, by omega, by rw [e9]; exact hS⟩ dX10_lay_48 (by omega) (by omega)
    · have _ := 0
      have t_6 : tv nn (A 0 (ix s)) := (hS.tsh h_1)
      refine g_aald hx hb hK hI 1 hS.2.2.2.2.1 rfl (sh_in h_1) dX10_lay_16 ?_
      refine W.eq (g2 := F0 mI 17 ls [.ref (aa (4 * ix (A 0 (ix s))))]) (by rw [show shf aa A (Int32.toNatClampNeg s) = adr aa (A 0 (ix s)) from shf_at h_1, adr_s h_3]; rfl) ?_
      rcases btf (fit A (A 0 (ix s)) 6 7) with h_7 | h_7
      · have _ := 0
        refine g_callS (own := RX10) (index := 54) (n := 1) hx hb hml hown hts (c_X10_asHive_y l E b0 _ (aa (4 * ix (A 0 (ix s)))) _ _ (hS.at hn t_6 h_3) (cix_in _) (hS.gs hn t_6 h_3 5 (by decide) h_7)) m_ml_X10_54 m_st_X10_asHive m_in_X10 m_co_X10_asHive (by decide +kernel) ⟨Nat.le_of_ble_eq_true rfl, Nat.le_of_ble_eq_true rfl⟩ ⟨by first | exact Nat.le_of_ble_eq_true rfl | (show _ ≤ 2; omega), by first | exact Nat.le_of_ble_eq_true rfl | (show _ ≤ 160; omega)⟩ rfl hl.1 rfl (Nat.le_of_ble_eq_true rfl) dX10_lay_17 hK hI (fun r G1 H1 L1 hp hI => ?_)
        obtain ⟨v, rfl, ev, hGe⟩ := hp
        subst ev
        rw [hGe] at hI
        refine W.eq (g2 := F0 mI 20 ls [.ref (aa (4 * ix (A 0 (ix s))))]) rfl ?_
        refine lv_astore (lv' := [(4, .ref (aa (4 * ix (A 0 (ix s))))), (0, .ref (aa 0)), (1, .int s), (2, .int i), (3, .int n)]) hx hb dX10_lay_20 hl (by decide) rfl (fun ls hl => ?_)
        refine lv_aload hx hb dX10_lay_22 (lv_at hl 0 rfl) ?_
        refine lv_ifnull hx hb dX10_lay_24 ?_
        refine lv_aload hx hb dX10_lay_27 (lv_at hl 0 rfl) ?_
        rcases Classical.em ((A 5 (ix (A 0 (ix s)))) < 0) with h_8 | h_8
        · have _ := 0
          refine g_get (index := 62) (ci := 5) hx hb hts inlX5 hown hK hI (hS.hv hn t_6 h_3 h_7) rfl 1 (by decide) m_fl_X10_62 (fun _ h9 => h9) rfl dX10_lay_29 ?_
          refine W.eq (g2 := F0 mI 32 ls [.null]) (by rw [rwo_n h_8]; rfl) ?_
          refine lv_ifnonnullN hx hb dX10_lay_32 ?_
          refine lv_aload_n hx hb dX10_lay_35 rfl (lv_at hl 1 rfl) ?_
          refine lv_aload_n hx hb dX10_lay_36 rfl (lv_at hl 1 rfl) ?_
          refine g_get (index := 11) (ci := 8) hx hb hts inlX10 hown hK hI hS.2.2.2.1 rfl 0 (by decide) m_fl_X10_11 (fun _ h9 => h9) rfl dX10_lay_37 ?_
          refine lv_iload_n hx hb dX10_lay_40 rfl (lv_at hl 2 rfl) ?_
          refine g_aald hx hb hK hI 1 hS.2.2.2.2.1 rfl (sh_in h_1) dX10_lay_41 ?_
          refine W.eq (g2 := F0 mI 42 ls [.ref (aa (4 * ix (A 0 (ix s)))), .ref (aa 0)]) (by rw [show shf aa A (Int32.toNatClampNeg s) = adr aa (A 0 (ix s)) from shf_at h_1, adr_s h_3]; rfl) ?_
          refine g_callS (own := RX10) (index := 66) (n := 1) hx hb hml hown hts (c_X10_castOrNull_y l E b0 _ (aa (4 * ix (A 0 (ix s)))) _ _ (hS.at hn t_6 h_3) (cix_in _) (hS.gs hn t_6 h_3 5 (by decide) h_7)) m_ml_X10_66 m_st_X10_castOrNull m_in_X10 m_co_X10_castOrNull (by decide +kernel) ⟨Nat.le_of_ble_eq_true rfl, Nat.le_of_ble_eq_true rfl⟩ ⟨by first | exact Nat.le_of_ble_eq_true rfl | (show _ ≤ 2; omega), by first | exact Nat.le_of_ble_eq_true rfl | (show _ ≤ 160; omega)⟩ rfl hl.1 rfl (Nat.le_of_ble_eq_true rfl) dX10_lay_42 hK hI (fun r G1 H1 L1 hp hI => ?_)
          obtain ⟨v, rfl, ev, hGe⟩ := hp
          subst ev
          rw [hGe] at hI
          refine W.eq (g2 := F0 mI 45 ls [.int 1, .ref (aa 0)]) rfl ?_
          refine g_callV (own := RX10) (index := 96) (n := 1) hx hb hml hown hts (c_X10_refuseLong l E b0 _ _ aa _ nn hS hn 1 (vp_in_iff.mpr (by decide))) hS.2.2.2.1 rfl rfl m_ml_X10_96 m_im_X10_refuseLong m_se_X10_X10_refuseLong_X10_refuseLong m_in_X10 m_co_X10_refuseLong (by decide +kernel) ⟨Nat.le_of_ble_eq_true rfl, Nat.le_of_ble_eq_true rfl⟩ ⟨by first | exact Nat.le_of_ble_eq_true rfl | (show _ ≤ 2; omega), by first | exact Nat.le_of_ble_eq_true rfl | (show _ ≤ 160; omega)⟩ rfl hl.1 rfl (Nat.le_of_ble_eq_true rfl) dX10_lay_45 hK hI (fun r G1 H1 L1 hp hI => ?_)
          obtain ⟨v, rfl, ev, hS⟩ := hp
          subst ev
          refine W.eq (g2 := F0 mI 48 ls [.long (-9223372036854775708 + ((-10 - 1) : Int32).toInt64)]) rfl ?_
          have e9 : sp_lay A s i n = ((-9223372036854775708 + ((-10 - 1) : Int32).toInt64), (rfs A 1)) := by
            simp only [sp_lay, ly1, ly2, rfi, rfj, wHv, wRw, wSl, h_1, h_3, h_7, h_8, eqb_00, eqb_10, eqb_20, eqb_30, eqb_50, eqb_11, eqb_21, reduceIte, Bool.false_eq_true, not_true_eq_false, not_false_eq_true, ite_self]
          exact g_lret hx hb hr hlocks hI ⟨_, rfl, by rw [e9], aa, nn, by omega, by rw [e9]; exact hS⟩ dX10_lay_48 (by omega) (by omega)
        · have _ := 0
          refine g_get (index := 62) (ci := 5) hx hb hts inlX5 hown hK hI (hS.hv hn t_6 h_3 h_7) rfl 1 (by decide) m_fl_X10_62 (fun _ h9 => h9) rfl dX10_lay_29 ?_
          refine W.eq (g2 := F0 mI 32 ls [.ref (aa (4 * ix (A 0 (ix s)) + 1))]) (by rw [rwo_s h_8]; rfl) ?_
          refine lv_ifnonnull (tgt := 49) hx hb dX10_lay_32 (by decide) ?_
          refine lv_aload hx hb dX10_lay_49 (lv_at hl 0 rfl) ?_
          refine g_get (index := 62) (ci := 5) hx hb hts inlX5 hown hK hI (hS.hv hn t_6 h_3 h_7) rfl 1 (by decide) m_fl_X10_62 (fun _ h9 => h9) rfl dX10_lay_51 ?_
          refine W.eq (g2 := F0 mI 54 ls [.ref (aa (4 * ix (A 0 (ix s)) + 1))]) (by rw [rwo_s h_8]; rfl) ?_
          refine lv_astore (lv' := [(5, .ref (aa (4 * ix (A 0 (ix s)) + 1))), (4, .ref (aa (4 * ix (A 0 (ix s))))), (0, .ref (aa 0)), (1, .int s), (2, .int i), (3, .int n)]) hx hb dX10_lay_54 hl (by decide) rfl (fun ls hl => ?_)
          refine lv_iload_n hx hb dX10_lay_56 rfl (lv_at hl 4 rfl) ?_
          refine lv_aload hx hb dX10_lay_57 (lv_at hl 0 rfl) ?_
          refine g_alen hx hb hK hI 2 (hS.rw' hn t_6 h_3 h_8) rfl (nIix h_8) dX10_lay_59 ?_
          refine g_callS (own := RX10) (index := 82) (n := 2) hx hb hml hown hts (c_X10_isIndex l E b0 _ i (A 5 (ix (A 0 (ix s)))) h_8) m_ml_X10_82 m_st_X10_isIndex m_in_X10 m_co_X10_isIndex (by decide +kernel) ⟨Nat.le_of_ble_eq_true rfl, Nat.le_of_ble_eq_true rfl⟩ ⟨by first | exact Nat.le_of_ble_eq_true rfl | (show _ ≤ 2; omega), by first | exact Nat.le_of_ble_eq_true rfl | (show _ ≤ 160; omega)⟩ rfl hl.1 rfl (Nat.le_of_ble_eq_true rfl) dX10_lay_60 hK hI (fun r G1 H1 L1 hp hI => ?_)
          obtain ⟨v, rfl, hGe, ⟨h_9, rfl⟩ | ⟨h_9, rfl⟩⟩ := hp
          · rw [hGe] at hI
            refine W.eq (g2 := F0 mI 63 ls [.int 1]) rfl ?_
            refine lv_if_ne (tgt := 72) hx hb dX10_lay_63 (by decide) (fun _ => ?_) (fun c_10 => absurd c_10 (by decide))
            refine lv_aload hx hb dX10_lay_72 (lv_at hl 0 rfl) ?_
            refine lv_iload_n hx hb dX10_lay_74 rfl (lv_at hl 4 rfl) ?_
            rcases btf (eqb (A 6 (ix ((30 * (A 0 (ix s))) + i))) 0) with h_11 | h_11
            · have z_12 := fun lo hi => fit_0 (A := A) lo hi h_11
              have t_13 : tv nn (A 6 (ix ((30 * (A 0 (ix s))) + i))) := (hS.tsl hn t_6 h_8 h_9)
              refine g_aald hx hb hK hI 2 (hS.rw' hn t_6 h_3 h_8) rfl (hS.slin hn t_6 h_8 h_9) dX10_lay_75 ?_
              refine W.eq (g2 := F0 mI 76 ls [.null]) (by rw [show rwf aa A (ix (A 0 (ix s))) (Int32.toNatClampNeg i) = adr aa (A 6 (ix ((30 * (A 0 (ix s))) + i))) from hS.slv hn t_6 h_8 h_9, adr_n h_11]; rfl) ?_
              refine g_callS (own := RX10) (index := 103) (n := 1) hx hb hml hown hts (c_X10_asBrood_n l E b0 _) m_ml_X10_103 m_st_X10_asBrood m_in_X10 m_co_X10_asBrood (by decide +kernel) ⟨Nat.le_of_ble_eq_true rfl, Nat.le_of_ble_eq_true rfl⟩ ⟨by first | exact Nat.le_of_ble_eq_true rfl | (show _ ≤ 2; omega), by first | exact Nat.le_of_ble_eq_true rfl | (show _ ≤ 160; omega)⟩ rfl hl.1 rfl (Nat.le_of_ble_eq_true rfl) dX10_lay_76 hK hI (fun r G1 H1 L1 hp hI => ?_)
              obtain ⟨v, rfl, ev, hGe⟩ := hp
              subst ev
              rw [hGe] at hI
              refine W.eq (g2 := F0 mI 79 ls [.null]) rfl ?_
              refine lv_astoreN (lv' := [(6, .null), (5, .ref (aa (4 * ix (A 0 (ix s)) + 1))), (4, .ref (aa (4 * ix (A 0 (ix s))))), (0, .ref (aa 0)), (1, .int s), (2, .int i), (3, .int n)]) hx hb dX10_lay_79 hl (by decide) rfl (fun ls hl => ?_)
              refine lv_aload hx hb dX10_lay_81 (lv_at hl 1 rfl) ?_
              refine lv_iload_n hx hb dX10_lay_83 rfl (lv_at hl 5 rfl) ?_
              refine g_aald hx hb hK hI 2 (hS.rw' hn t_6 h_3 h_8) rfl (hS.slin hn t_6 h_8 h_9) dX10_lay_84 ?_
              refine W.eq (g2 := F0 mI 85 ls [.null]) (by rw [show rwf aa A (ix (A 0 (ix s))) (Int32.toNatClampNeg i) = adr aa (A 6 (ix ((30 * (A 0 (ix s))) + i))) from hS.slv hn t_6 h_8 h_9, adr_n h_11]; rfl) ?_
              refine lv_ifnullN (tgt := 99) hx hb dX10_lay_85 (by decide) ?_
              refine lv_aload hx hb dX10_lay_99 (lv_at hl 2 rfl) ?_
              rcases btf (eqb (A 10 (ix (A 0 (ix s)))) 0) with h_14 | h_14
              · have z_15 := fun lo hi => fit_0 (A := A) lo hi h_14
                have t_16 : tv nn (A 10 (ix (A 0 (ix s)))) := (hS.tpt hn t_6 10 (by decide))
                refine g_get (index := 107) (ci := 5) hx hb hts inlX5 hown hK hI (hS.hv hn t_6 h_3 h_7) rfl 3 (by decide) m_fl_X10_107 (fun _ h9 => h9) rfl dX10_lay_101 ?_
                refine W.eq (g2 := F0 mI 104 ls [.null]) (by rw [adr_n h_14]; rfl) ?_
                refine lv_astoreN (lv' := [(7, .null), (6, .null), (5, .ref (aa (4 * ix (A 0 (ix s)) + 1))), (4, .ref (aa (4 * ix (A 0 (ix s))))), (0, .ref (aa 0)), (1, .int s), (2, .int i), (3, .int n)]) hx hb dX10_lay_104 hl (by decide) rfl (fun ls hl => ?_)
                refine lv_aloadN hx hb dX10_lay_106 (lv_at hl 0 rfl) ?_
                refine lv_ifnullN (tgt := 116) hx hb dX10_lay_108 (by decide) ?_
                refine lv_aload_n hx hb dX10_lay_116 rfl (lv_at hl 4 rfl) ?_
                refine lv_iconst (v := 1) hx hb dX10_lay_117 (by decide) ?_
                refine g_callV (own := RX10) (index := 96) (n := 1) hx hb hml hown hts (c_X10_refuseLong l E b0 _ _ aa _ nn hS hn 1 (vp_in_iff.mpr (by decide))) hS.2.2.2.1 rfl rfl m_ml_X10_96 m_im_X10_refuseLong m_se_X10_X10_refuseLong_X10_refuseLong m_in_X10 m_co_X10_refuseLong (by decide +kernel) ⟨Nat.le_of_ble_eq_true rfl, Nat.le_of_ble_eq_true rfl⟩ ⟨by first | exact Nat.le_of_ble_eq_true rfl | (show _ ≤ 2; omega), by first | exact Nat.le_of_ble_eq_true rfl | (show _ ≤ 160; omega)⟩ rfl hl.1 rfl (Nat.le_of_ble_eq_true rfl) dX10_lay_118 hK hI (fun r G1 H1 L1 hp hI => ?_)
                obtain ⟨v, rfl, ev, hS⟩ := hp
                subst ev
                refine W.eq (g2 := F0 mI 121 ls [.long (-9223372036854775708 + ((-10 - 1) : Int32).toInt64)]) rfl ?_
                have e9 : sp_lay A s i n = ((-9223372036854775708 + ((-10 - 1) : Int32).toInt64), (rfs A 1)) := by
                  simp only [sp_lay, ly1, ly2, rfi, rfj, wHv, wRw, wSl, h_1, h_3, h_7, h_8, h_9, h_11, z_12, h_14, z_15, eqb_00, eqb_10, eqb_20, eqb_30, eqb_50, eqb_11, eqb_21, reduceIte, Bool.false_eq_true, not_true_eq_false, not_false_eq_true, ite_self]
                exact g_lret hx hb hr hlocks hI ⟨_, rfl, by rw [e9], aa, nn, by omega, by rw [e9]; exact hS⟩ dX10_lay_121 (by omega) (by omega)
              · have _ := 0
                have t_17 : tv nn (A 10 (ix (A 0 (ix s)))) := (hS.tpt hn t_6 10 (by decide))
                have f_18 := (hS.fpt hn t_6 h_3).1
                refine g_get (index := 107) (ci := 5) hx hb hts inlX5 hown hK hI (hS.hv hn t_6 h_3 h_7) rfl 3 (by decide) m_fl_X10_107 (fun _ h9 => h9) rfl dX10_lay_101 ?_
                refine W.eq (g2 := F0 mI 104 ls [.ref (aa (4 * ix (A 10 (ix (A 0 (ix s))))))]) (by rw [adr_s h_14]; rfl) ?_
                refine lv_astore (lv' := [(7, .ref (aa (4 * ix (A 10 (ix (A 0 (ix s))))))), (6, .null), (5, .ref (aa (4 * ix (A 0 (ix s)) + 1))), (4, .ref (aa (4 * ix (A 0 (ix s))))), (0, .ref (aa 0)), (1, .int s), (2, .int i), (3, .int n)]) hx hb dX10_lay_104 hl (by decide) rfl (fun ls hl => ?_)
                refine lv_aload hx hb dX10_lay_106 (lv_at hl 0 rfl) ?_
                refine lv_ifnull hx hb dX10_lay_108 ?_
                refine lv_aloadN hx hb dX10_lay_111 (lv_at hl 1 rfl) ?_
                refine lv_ifnonnullN hx hb dX10_lay_113 ?_
                refine lv_aload_n hx hb dX10_lay_116 rfl (lv_at hl 4 rfl) ?_
                refine lv_iconst (v := 1) hx hb dX10_lay_117 (by decide) ?_
                refine g_callV (own := RX10) (index := 96) (n := 1) hx hb hml hown hts (c_X10_refuseLong l E b0 _ _ aa _ nn hS hn 1 (vp_in_iff.mpr (by decide))) hS.2.2.2.1 rfl rfl m_ml_X10_96 m_im_X10_refuseLong m_se_X10_X10_refuseLong_X10_refuseLong m_in_X10 m_co_X10_refuseLong (by decide +kernel) ⟨Nat.le_of_ble_eq_true rfl, Nat.le_of_ble_eq_true rfl⟩ ⟨by first | exact Nat.le_of_ble_eq_true rfl | (show _ ≤ 2; omega), by first | exact Nat.le_of_ble_eq_true rfl | (show _ ≤ 160; omega)⟩ rfl hl.1 rfl (Nat.le_of_ble_eq_true rfl) dX10_lay_118 hK hI (fun r G1 H1 L1 hp hI => ?_)
                obtain ⟨v, rfl, ev, hS⟩ := hp
                subst ev
                refine W.eq (g2 := F0 mI 121 ls [.long (-9223372036854775708 + ((-10 - 1) : Int32).toInt64)]) rfl ?_
                have e9 : sp_lay A s i n = ((-9223372036854775708 + ((-10 - 1) : Int32).toInt64), (rfs A 1)) := by
                  simp only [sp_lay, ly1, ly2, rfi, rfj, wHv, wRw, wSl, h_1, h_3, h_7, h_8, h_9, h_11, z_12, h_14, eqb_00, eqb_10, eqb_20, eqb_30, eqb_50, eqb_11, eqb_21, reduceIte, Bool.false_eq_true, not_true_eq_false, not_false_eq_true, ite_self]
                exact g_lret hx hb hr hlocks hI ⟨_, rfl, by rw [e9], aa, nn, by omega, by rw [e9]; exact hS⟩ dX10_lay_121 (by omega) (by omega)
            · have _ := 0
              have t_19 : tv nn (A 6 (ix ((30 * (A 0 (ix s))) + i))) := (hS.tsl hn t_6 h_8 h_9)
              have f_20 := hS.fsl hn t_6 h_3 h_8 h_9
              refine g_aald hx hb hK hI 2 (hS.rw' hn t_6 h_3 h_8) rfl (hS.slin hn t_6 h_8 h_9) dX10_lay_75 ?_
              refine W.eq (g2 := F0 mI 76 ls [.ref (aa (4 * ix (A 6 (ix ((30 * (A 0 (ix s))) + i)))))]) (by rw [show rwf aa A (ix (A 0 (ix s))) (Int32.toNatClampNeg i) = adr aa (A 6 (ix ((30 * (A 0 (ix s))) + i))) from hS.slv hn t_6 h_8 h_9, adr_s h_11]; rfl) ?_
              rcases btf (fit A (A 6 (ix ((30 * (A 0 (ix s))) + i))) 1 1) with h_21 | h_21
              · have _ := 0
                refine g_callS (own := RX10) (index := 103) (n := 1) hx hb hml hown hts (c_X10_asBrood_y l E b0 _ (aa (4 * ix (A 6 (ix ((30 * (A 0 (ix s))) + i))))) _ _ (hS.at hn t_19 h_11) (cix_in _) (hS.gs hn t_19 h_11 1 (by decide) h_21)) m_ml_X10_103 m_st_X10_asBrood m_in_X10 m_co_X10_asBrood (by decide +kernel) ⟨Nat.le_of_ble_eq_true rfl, Nat.le_of_ble_eq_true rfl⟩ ⟨by first | exact Nat.le_of_ble_eq_true rfl | (show _ ≤ 2; omega), by first | exact Nat.le_of_ble_eq_true rfl | (show _ ≤ 160; omega)⟩ rfl hl.1 rfl (Nat.le_of_ble_eq_true rfl) dX10_lay_76 hK hI (fun r G1 H1 L1 hp hI => ?_)
                obtain ⟨v, rfl, ev, hGe⟩ := hp
                subst ev
                rw [hGe] at hI
                refine W.eq (g2 := F0 mI 79 ls [.ref (aa (4 * ix (A 6 (ix ((30 * (A 0 (ix s))) + i)))))]) rfl ?_
                refine lv_astore (lv' := [(6, .ref (aa (4 * ix (A 6 (ix ((30 * (A 0 (ix s))) + i)))))), (5, .ref (aa (4 * ix (A 0 (ix s)) + 1))), (4, .ref (aa (4 * ix (A 0 (ix s))))), (0, .ref (aa 0)), (1, .int s), (2, .int i), (3, .int n)]) hx hb dX10_lay_79 hl (by decide) rfl (fun ls hl => ?_)
                refine lv_aload hx hb dX10_lay_81 (lv_at hl 1 rfl) ?_
                refine lv_iload_n hx hb dX10_lay_83 rfl (lv_at hl 5 rfl) ?_
                have f_22 := hS.fsl hn t_6 h_3 h_8 h_9
                refine g_aald hx hb hK hI 2 (hS.rw' hn t_6 h_3 h_8) rfl (hS.slin hn t_6 h_8 h_9) dX10_lay_84 ?_
                refine W.eq (g2 := F0 mI 85 ls [.ref (aa (4 * ix (A 6 (ix ((30 * (A 0 (ix s))) + i)))))]) (by rw [show rwf aa A (ix (A 0 (ix s))) (Int32.toNatClampNeg i) = adr aa (A 6 (ix ((30 * (A 0 (ix s))) + i))) from hS.slv hn t_6 h_8 h_9, adr_s h_11]; rfl) ?_
                refine lv_ifnull hx hb dX10_lay_85 ?_
                refine lv_aload hx hb dX10_lay_88 (lv_at hl 0 rfl) ?_
                refine lv_ifnonnull (tgt := 99) hx hb dX10_lay_90 (by decide) ?_
                refine lv_aload hx hb dX10_lay_99 (lv_at hl 2 rfl) ?_
                rcases btf (eqb (A 10 (ix (A 0 (ix s)))) 0) with h_23 | h_23
                · have z_24 := fun lo hi => fit_0 (A := A) lo hi h_23
                  have t_25 : tv nn (A 10 (ix (A 0 (ix s)))) := (hS.tpt hn t_6 10 (by decide))
                  refine g_get (index := 107) (ci := 5) hx hb hts inlX5 hown hK hI (hS.hv hn t_6 h_3 h_7) rfl 3 (by decide) m_fl_X10_107 (fun _ h9 => h9) rfl dX10_lay_101 ?_
                  refine W.eq (g2 := F0 mI 104 ls [.null]) (by rw [adr_n h_23]; rfl) ?_
                  refine lv_astoreN (lv' := [(7, .null), (6, .ref (aa (4 * ix (A 6 (ix ((30 * (A 0 (ix s))) + i)))))), (5, .ref (aa (4 * ix (A 0 (ix s)) + 1))), (4, .ref (aa (4 * ix (A 0 (ix s))))), (0, .ref (aa 0)), (1, .int s), (2, .int i), (3, .int n)]) hx hb dX10_lay_104 hl (by decide) rfl (fun ls hl => ?_)
                  refine lv_aloadN hx hb dX10_lay_106 (lv_at hl 0 rfl) ?_
                  refine lv_ifnullN (tgt := 116) hx hb dX10_lay_108 (by decide) ?_
                  refine lv_aload_n hx hb dX10_lay_116 rfl (lv_at hl 4 rfl) ?_
                  refine lv_iconst (v := 1) hx hb dX10_lay_117 (by decide) ?_
                  refine g_callV (own := RX10) (index := 96) (n := 1) hx hb hml hown hts (c_X10_refuseLong l E b0 _ _ aa _ nn hS hn 1 (vp_in_iff.mpr (by decide))) hS.2.2.2.1 rfl rfl m_ml_X10_96 m_im_X10_refuseLong m_se_X10_X10_refuseLong_X10_refuseLong m_in_X10 m_co_X10_refuseLong (by decide +kernel) ⟨Nat.le_of_ble_eq_true rfl, Nat.le_of_ble_eq_true rfl⟩ ⟨by first | exact Nat.le_of_ble_eq_true rfl | (show _ ≤ 2; omega), by first | exact Nat.le_of_ble_eq_true rfl | (show _ ≤ 160; omega)⟩ rfl hl.1 rfl (Nat.le_of_ble_eq_true rfl) dX10_lay_118 hK hI (fun r G1 H1 L1 hp hI => ?_)
                  obtain ⟨v, rfl, ev, hS⟩ := hp
                  subst ev
                  refine W.eq (g2 := F0 mI 121 ls [.long (-9223372036854775708 + ((-10 - 1) : Int32).toInt64)]) rfl ?_
                  have e9 : sp_lay A s i n = ((-9223372036854775708 + ((-10 - 1) : Int32).toInt64), (rfs A 1)) := by
                    simp only [sp_lay, ly1, ly2, rfi, rfj, wHv, wRw, wSl, h_1, h_3, h_7, h_8, h_9, h_11, h_21, h_23, z_24, eqb_00, eqb_10, eqb_20, eqb_30, eqb_50, eqb_11, eqb_21, reduceIte, Bool.false_eq_true, not_true_eq_false, not_false_eq_true, ite_self]
                  exact g_lret hx hb hr hlocks hI ⟨_, rfl, by rw [e9], aa, nn, by omega, by rw [e9]; exact hS⟩ dX10_lay_121 (by omega) (by omega)
                · have _ := 0
                  have t_26 : tv nn (A 10 (ix (A 0 (ix s)))) := (hS.tpt hn t_6 10 (by decide))
                  have f_27 := (hS.fpt hn t_6 h_3).1
                  refine g_get (index := 107) (ci := 5) hx hb hts inlX5 hown hK hI (hS.hv hn t_6 h_3 h_7) rfl 3 (by decide) m_fl_X10_107 (fun _ h9 => h9) rfl dX10_lay_101 ?_
                  refine W.eq (g2 := F0 mI 104 ls [.ref (aa (4 * ix (A 10 (ix (A 0 (ix s))))))]) (by rw [adr_s h_23]; rfl) ?_
                  refine lv_astore (lv' := [(7, .ref (aa (4 * ix (A 10 (ix (A 0 (ix s))))))), (6, .ref (aa (4 * ix (A 6 (ix ((30 * (A 0 (ix s))) + i)))))), (5, .ref (aa (4 * ix (A 0 (ix s)) + 1))), (4, .ref (aa (4 * ix (A 0 (ix s))))), (0, .ref (aa 0)), (1, .int s), (2, .int i), (3, .int n)]) hx hb dX10_lay_104 hl (by decide) rfl (fun ls hl => ?_)
                  refine lv_aload hx hb dX10_lay_106 (lv_at hl 0 rfl) ?_
                  refine lv_ifnull hx hb dX10_lay_108 ?_
                  refine lv_aload hx hb dX10_lay_111 (lv_at hl 1 rfl) ?_
                  refine lv_ifnonnull (tgt := 122) hx hb dX10_lay_113 (by decide) ?_
                  refine lv_aload hx hb dX10_lay_122 (lv_at hl 1 rfl) ?_
                  refine lv_dup hx hb dX10_lay_124 rfl ?_
                  have h_28 := fit_pt (A := A) h_11 h_21
                  refine g_get (index := 111) (ci := 1) hx hb hts inlX1 hown hK hI (((hS.at hn t_19 h_11)).trans (congrArg some (thc_1 h_28))) rfl 2 (by decide) m_fl_X10_111 (fun _ h9 => h9) rfl dX10_lay_125 ?_
                  refine lv_iload_n hx hb dX10_lay_128 rfl (lv_at hl 7 rfl) ?_
                  refine lv_aload hx hb dX10_lay_129 (lv_at hl 0 rfl) ?_
                  have h_29 := fit_pt (A := A) h_23 f_27
                  refine g_get (index := 116) (ci := 6) hx hb hts inlX7 hown hK hI (((hS.at hn t_26 h_23)).trans (congrArg some (thc_2 h_29))) rfl 1 (by decide) m_fl_X10_116 (fun _ h9 => h9) rfl dX10_lay_131 ?_
                  refine lv_imul hx hb dX10_lay_134 ?_
                  refine lv_iadd hx hb dX10_lay_135 ?_
                  refine g_put (index := 111) (ci := 1) hx hb hts inlX1 tyX1 tyX1_ok nmX1 hown hK hI (((hS.at hn t_19 h_11)).trans (congrArg some (thc_1 h_28))) rfl 2 (by decide) m_fl_X10_111 (fun _ h9 => h9) rfl rfl rfl (Nat.le_of_ble_eq_true rfl) dX10_lay_136 (fun H1 L1 hI => ?_)
                  have hS := SW.p34 hS 4 (by decide) (ix (A 6 (ix ((30 * (A 0 (ix s))) + i)))) (t_19.pos hn h_11) (t_19.ixle hn).1 ((A 4 (ix (A 6 (ix ((30 * (A 0 (ix s))) + i))))) + (n * (A 3 (ix (A 10 (ix (A 0 (ix s)))))))) (p34y_1_4 h_28)
                  refine W.eq (g2 := F0 mI 139 ls []) rfl ?_
                  refine lv_aload hx hb dX10_lay_139 (lv_at hl 0 rfl) ?_
                  refine lv_dup hx hb dX10_lay_141 rfl ?_
                  refine g_get (index := 121) (ci := 6) hx hb hts inlX7 hown hK hI (((hS.at hn t_26 h_23)).trans (congrArg some (thc_2 h_29))) rfl 2 (by decide) m_fl_X10_121 (fun _ h9 => h9) rfl dX10_lay_142 ?_
                  refine lv_iconst (v := 1) hx hb dX10_lay_145 (by decide) ?_
                  refine lv_iadd hx hb dX10_lay_146 ?_
                  refine g_put (index := 121) (ci := 6) hx hb hts inlX7 tyX7 tyX7_ok nmX7 hown hK hI (((hS.at hn t_26 h_23)).trans (congrArg some (thc_2 h_29))) rfl 2 (by decide) m_fl_X10_121 (fun _ h9 => h9) rfl rfl rfl (Nat.le_of_ble_eq_true rfl) dX10_lay_147 (fun H1 L1 hI => ?_)
                  have hS := SW.p34 hS 4 (by decide) (ix (A 10 (ix (A 0 (ix s))))) (t_26.pos hn h_23) (t_26.ixle hn).1 (((u2 A 4 (ix (A 6 (ix ((30 * (A 0 (ix s))) + i)))) ((A 4 (ix (A 6 (ix ((30 * (A 0 (ix s))) + i))))) + (n * (A 3 (ix (A 10 (ix (A 0 (ix s))))))))) 4 (ix (A 10 (ix (A 0 (ix s)))))) + 1) (p34y_2_4 h_29)
                  refine W.eq (g2 := F0 mI 150 ls []) rfl ?_
                  refine lv_aload hx hb dX10_lay_150 (lv_at hl 1 rfl) ?_
                  refine g_get (index := 111) (ci := 1) hx hb hts inlX1 hown hK hI (((hS.at hn t_19 h_11)).trans (congrArg some (thc_1 h_28))) rfl 2 (by decide) m_fl_X10_111 (fun _ h9 => h9) rfl dX10_lay_152 ?_
                  refine lv_i2l hx hb dX10_lay_155 rfl ?_
                  have e9 : sp_lay A s i n = (((((u2 (u2 A 4 (ix (A 6 (ix ((30 * (A 0 (ix s))) + i)))) ((A 4 (ix (A 6 (ix ((30 * (A 0 (ix s))) + i))))) + (n * (A 3 (ix (A 10 (ix (A 0 (ix s))))))))) 4 (ix (A 10 (ix (A 0 (ix s))))) (((u2 A 4 (ix (A 6 (ix ((30 * (A 0 (ix s))) + i)))) ((A 4 (ix (A 6 (ix ((30 * (A 0 (ix s))) + i))))) + (n * (A 3 (ix (A 10 (ix (A 0 (ix s))))))))) 4 (ix (A 10 (ix (A 0 (ix s)))))) + 1)) 4 (ix (A 6 (ix ((30 * (A 0 (ix s))) + i))))) : Int32).toInt64), (u2 (u2 A 4 (ix (A 6 (ix ((30 * (A 0 (ix s))) + i)))) ((A 4 (ix (A 6 (ix ((30 * (A 0 (ix s))) + i))))) + (n * (A 3 (ix (A 10 (ix (A 0 (ix s))))))))) 4 (ix (A 10 (ix (A 0 (ix s))))) (((u2 A 4 (ix (A 6 (ix ((30 * (A 0 (ix s))) + i)))) ((A 4 (ix (A 6 (ix ((30 * (A 0 (ix s))) + i))))) + (n * (A 3 (ix (A 10 (ix (A 0 (ix s))))))))) 4 (ix (A 10 (ix (A 0 (ix s)))))) + 1))) := by
                    simp only [sp_lay, ly1, ly2, rfi, rfj, wHv, wRw, wSl, h_1, h_3, h_7, h_8, h_9, h_11, h_21, h_23, eqb_00, eqb_10, eqb_20, eqb_30, eqb_50, eqb_11, eqb_21, reduceIte, Bool.false_eq_true, not_true_eq_false, not_false_eq_true, ite_self]
                  exact g_lret hx hb hr hlocks hI ⟨_, rfl, by rw [e9], aa, nn, by omega, by rw [e9]; exact hS⟩ dX10_lay_156 (by omega) (by omega)
              · have _ := 0
                refine g_callS (own := RX10) (index := 103) (n := 1) hx hb hml hown hts (c_X10_asBrood_f l E b0 _ (aa (4 * ix (A 6 (ix ((30 * (A 0 (ix s))) + i))))) _ _ (hS.at hn t_19 h_11) (cix_in _) (hS.gs hn t_19 h_11 1 (by decide) h_21)) m_ml_X10_103 m_st_X10_asBrood m_in_X10 m_co_X10_asBrood (by decide +kernel) ⟨Nat.le_of_ble_eq_true rfl, Nat.le_of_ble_eq_true rfl⟩ ⟨by first | exact Nat.le_of_ble_eq_true rfl | (show _ ≤ 2; omega), by first | exact Nat.le_of_ble_eq_true rfl | (show _ ≤ 160; omega)⟩ rfl hl.1 rfl (Nat.le_of_ble_eq_true rfl) dX10_lay_76 hK hI (fun r G1 H1 L1 hp hI => ?_)
                obtain ⟨v, rfl, ev, hGe⟩ := hp
                subst ev
                rw [hGe] at hI
                refine W.eq (g2 := F0 mI 79 ls [.null]) rfl ?_
                refine lv_astoreN (lv' := [(6, .null), (5, .ref (aa (4 * ix (A 0 (ix s)) + 1))), (4, .ref (aa (4 * ix (A 0 (ix s))))), (0, .ref (aa 0)), (1, .int s), (2, .int i), (3, .int n)]) hx hb dX10_lay_79 hl (by decide) rfl (fun ls hl => ?_)
                refine lv_aload hx hb dX10_lay_81 (lv_at hl 1 rfl) ?_
                refine lv_iload_n hx hb dX10_lay_83 rfl (lv_at hl 5 rfl) ?_
                have f_30 := hS.fsl hn t_6 h_3 h_8 h_9
                refine g_aald hx hb hK hI 2 (hS.rw' hn t_6 h_3 h_8) rfl (hS.slin hn t_6 h_8 h_9) dX10_lay_84 ?_
                refine W.eq (g2 := F0 mI 85 ls [.ref (aa (4 * ix (A 6 (ix ((30 * (A 0 (ix s))) + i)))))]) (by rw [show rwf aa A (ix (A 0 (ix s))) (Int32.toNatClampNeg i) = adr aa (A 6 (ix ((30 * (A 0 (ix s))) + i))) from hS.slv hn t_6 h_8 h_9, adr_s h_11]; rfl) ?_
                refine lv_ifnull hx hb dX10_lay_85 ?_
                refine lv_aloadN hx hb dX10_lay_88 (lv_at hl 0 rfl) ?_
                refine lv_ifnonnullN hx hb dX10_lay_90 ?_
                refine lv_aload_n hx hb dX10_lay_93 rfl (lv_at hl 3 rfl) ?_
                refine lv_iconst (v := 5) hx hb dX10_lay_94 (by decide) ?_
                refine g_callV (own := RX10) (index := 96) (n := 1) hx hb hml hown hts (c_X10_refuseLong l E b0 _ _ aa _ nn hS hn 5 (vp_in_iff.mpr (by decide))) hS.2.2.2.1 rfl rfl m_ml_X10_96 m_im_X10_refuseLong m_se_X10_X10_refuseLong_X10_refuseLong m_in_X10 m_co_X10_refuseLong (by decide +kernel) ⟨Nat.le_of_ble_eq_true rfl, Nat.le_of_ble_eq_true rfl⟩ ⟨by first | exact Nat.le_of_ble_eq_true rfl | (show _ ≤ 2; omega), by first | exact Nat.le_of_ble_eq_true rfl | (show _ ≤ 160; omega)⟩ rfl hl.1 rfl (Nat.le_of_ble_eq_true rfl) dX10_lay_95 hK hI (fun r G1 H1 L1 hp hI => ?_)
                obtain ⟨v, rfl, ev, hS⟩ := hp
                subst ev
                refine W.eq (g2 := F0 mI 98 ls [.long (-9223372036854775708 + ((-10 - 5) : Int32).toInt64)]) rfl ?_
                have e9 : sp_lay A s i n = ((-9223372036854775708 + ((-10 - 5) : Int32).toInt64), (rfs A 5)) := by
                  simp only [sp_lay, ly1, ly2, rfi, rfj, wHv, wRw, wSl, h_1, h_3, h_7, h_8, h_9, h_11, h_21, eqb_00, eqb_10, eqb_20, eqb_30, eqb_50, eqb_11, eqb_21, reduceIte, Bool.false_eq_true, not_true_eq_false, not_false_eq_true, ite_self]
                exact g_lret hx hb hr hlocks hI ⟨_, rfl, by rw [e9], aa, nn, by omega, by rw [e9]; exact hS⟩ dX10_lay_98 (by omega) (by omega)
          · rw [hGe] at hI
            refine W.eq (g2 := F0 mI 63 ls [.int 0]) rfl ?_
            refine lv_if_ne (tgt := 72) hx hb dX10_lay_63 (by decide) (fun c_31 => absurd c_31 (by decide)) (fun _ => ?_)
            refine lv_aload_n hx hb dX10_lay_66 rfl (lv_at hl 2 rfl) ?_
            refine lv_iconst (v := 3) hx hb dX10_lay_67 (by decide) ?_
            refine g_callV (own := RX10) (index := 96) (n := 1) hx hb hml hown hts (c_X10_refuseLong l E b0 _ _ aa _ nn hS hn 3 (vp_in_iff.mpr (by decide))) hS.2.2.2.1 rfl rfl m_ml_X10_96 m_im_X10_refuseLong m_se_X10_X10_refuseLong_X10_refuseLong m_in_X10 m_co_X10_refuseLong (by decide +kernel) ⟨Nat.le_of_ble_eq_true rfl, Nat.le_of_ble_eq_true rfl⟩ ⟨by first | exact Nat.le_of_ble_eq_true rfl | (show _ ≤ 2; omega), by first | exact Nat.le_of_ble_eq_true rfl | (show _ ≤ 160; omega)⟩ rfl hl.1 rfl (Nat.le_of_ble_eq_true rfl) dX10_lay_68 hK hI (fun r G1 H1 L1 hp hI => ?_)
            obtain ⟨v, rfl, ev, hS⟩ := hp
            subst ev
            refine W.eq (g2 := F0 mI 71 ls [.long (-9223372036854775708 + ((-10 - 3) : Int32).toInt64)]) rfl ?_
            have e9 : sp_lay A s i n = ((-9223372036854775708 + ((-10 - 3) : Int32).toInt64), (rfs A 3)) := by
              simp only [sp_lay, ly1, ly2, rfi, rfj, wHv, wRw, wSl, h_1, h_3, h_7, h_8, h_9, eqb_00, eqb_10, eqb_20, eqb_30, eqb_50, eqb_11, eqb_21, reduceIte, Bool.false_eq_true, not_true_eq_false, not_false_eq_true, ite_self]
            exact g_lret hx hb hr hlocks hI ⟨_, rfl, by rw [e9], aa, nn, by omega, by rw [e9]; exact hS⟩ dX10_lay_71 (by omega) (by omega)
      · have _ := 0
        refine g_callS (own := RX10) (index := 54) (n := 1) hx hb hml hown hts (c_X10_asHive_f l E b0 _ (aa (4 * ix (A 0 (ix s)))) _ _ (hS.at hn t_6 h_3) (cix_in _) (hS.gs hn t_6 h_3 5 (by decide) h_7)) m_ml_X10_54 m_st_X10_asHive m_in_X10 m_co_X10_asHive (by decide +kernel) ⟨Nat.le_of_ble_eq_true rfl, Nat.le_of_ble_eq_true rfl⟩ ⟨by first | exact Nat.le_of_ble_eq_true rfl | (show _ ≤ 2; omega), by first | exact Nat.le_of_ble_eq_true rfl | (show _ ≤ 160; omega)⟩ rfl hl.1 rfl (Nat.le_of_ble_eq_true rfl) dX10_lay_17 hK hI (fun r G1 H1 L1 hp hI => ?_)
        obtain ⟨v, rfl, ev, hGe⟩ := hp
        subst ev
        rw [hGe] at hI
        refine W.eq (g2 := F0 mI 20 ls [.null]) rfl ?_
        refine lv_astoreN (lv' := [(4, .null), (0, .ref (aa 0)), (1, .int s), (2, .int i), (3, .int n)]) hx hb dX10_lay_20 hl (by decide) rfl (fun ls hl => ?_)
        refine lv_aloadN hx hb dX10_lay_22 (lv_at hl 0 rfl) ?_
        refine lv_ifnullN (tgt := 35) hx hb dX10_lay_24 (by decide) ?_
        refine lv_aload_n hx hb dX10_lay_35 rfl (lv_at hl 1 rfl) ?_
        refine lv_aload_n hx hb dX10_lay_36 rfl (lv_at hl 1 rfl) ?_
        refine g_get (index := 11) (ci := 8) hx hb hts inlX10 hown hK hI hS.2.2.2.1 rfl 0 (by decide) m_fl_X10_11 (fun _ h9 => h9) rfl dX10_lay_37 ?_
        refine lv_iload_n hx hb dX10_lay_40 rfl (lv_at hl 2 rfl) ?_
        refine g_aald hx hb hK hI 1 hS.2.2.2.2.1 rfl (sh_in h_1) dX10_lay_41 ?_
        refine W.eq (g2 := F0 mI 42 ls [.ref (aa (4 * ix (A 0 (ix s)))), .ref (aa 0)]) (by rw [show shf aa A (Int32.toNatClampNeg s) = adr aa (A 0 (ix s)) from shf_at h_1, adr_s h_3]; rfl) ?_
        refine g_callS (own := RX10) (index := 66) (n := 1) hx hb hml hown hts (c_X10_castOrNull_f l E b0 _ (aa (4 * ix (A 0 (ix s)))) _ _ (hS.at hn t_6 h_3) (cix_in _) (hS.gs hn t_6 h_3 5 (by decide) h_7)) m_ml_X10_66 m_st_X10_castOrNull m_in_X10 m_co_X10_castOrNull (by decide +kernel) ⟨Nat.le_of_ble_eq_true rfl, Nat.le_of_ble_eq_true rfl⟩ ⟨by first | exact Nat.le_of_ble_eq_true rfl | (show _ ≤ 2; omega), by first | exact Nat.le_of_ble_eq_true rfl | (show _ ≤ 160; omega)⟩ rfl hl.1 rfl (Nat.le_of_ble_eq_true rfl) dX10_lay_42 hK hI (fun r G1 H1 L1 hp hI => ?_)
        obtain ⟨v, rfl, ev, hGe⟩ := hp
        subst ev
        rw [hGe] at hI
        refine W.eq (g2 := F0 mI 45 ls [.int 5, .ref (aa 0)]) rfl ?_
        refine g_callV (own := RX10) (index := 96) (n := 1) hx hb hml hown hts (c_X10_refuseLong l E b0 _ _ aa _ nn hS hn 5 (vp_in_iff.mpr (by decide))) hS.2.2.2.1 rfl rfl m_ml_X10_96 m_im_X10_refuseLong m_se_X10_X10_refuseLong_X10_refuseLong m_in_X10 m_co_X10_refuseLong (by decide +kernel) ⟨Nat.le_of_ble_eq_true rfl, Nat.le_of_ble_eq_true rfl⟩ ⟨by first | exact Nat.le_of_ble_eq_true rfl | (show _ ≤ 2; omega), by first | exact Nat.le_of_ble_eq_true rfl | (show _ ≤ 160; omega)⟩ rfl hl.1 rfl (Nat.le_of_ble_eq_true rfl) dX10_lay_45 hK hI (fun r G1 H1 L1 hp hI => ?_)
        obtain ⟨v, rfl, ev, hS⟩ := hp
        subst ev
        refine W.eq (g2 := F0 mI 48 ls [.long (-9223372036854775708 + ((-10 - 5) : Int32).toInt64)]) rfl ?_
        have e9 : sp_lay A s i n = ((-9223372036854775708 + ((-10 - 5) : Int32).toInt64), (rfs A 5)) := by
          simp only [sp_lay, ly1, ly2, rfi, rfj, wHv, wRw, wSl, h_1, h_3, h_7, eqb_00, eqb_10, eqb_20, eqb_30, eqb_50, eqb_11, eqb_21, reduceIte, Bool.false_eq_true, not_true_eq_false, not_false_eq_true, ite_self]
        exact g_lret hx hb hr hlocks hI ⟨_, rfl, by rw [e9], aa, nn, by omega, by rw [e9]; exact hS⟩ dX10_lay_48 (by omega) (by omega)
  · rw [hGe] at hI
    refine W.eq (g2 := F0 mI 4 ls [.int 0]) rfl ?_
    refine lv_if_ne (tgt := 11) hx hb dX10_lay_4 (by decide) (fun c_32 => absurd c_32 (by decide)) (fun _ => ?_)
    refine lv_ldc2 hx hb hown (hts _ m_kl_X10_94) dX10_lay_7 ?_
    have e9 : sp_lay A s i n = ((-9223372036854775808), A) := by
      simp only [sp_lay, ly1, ly2, rfi, rfj, wHv, wRw, wSl, h_1, eqb_00, eqb_10, eqb_20, eqb_30, eqb_50, eqb_11, eqb_21, reduceIte, Bool.false_eq_true, not_true_eq_false, not_false_eq_true, ite_self]
    exact g_lret hx hb hr hlocks hI ⟨_, rfl, by rw [e9], aa, nn, by omega, by rw [e9]; exact hS⟩ dX10_lay_10 (by omega) (by omega)
set_option maxHeartbeats 4000000 in
set_option maxRecDepth 100000 in
theorem c_X10_sound (l : Launch) (E : gE) (b0 : Nat) (G : gG) (x : Nat) (aa : Nat → Nat) (A : gA) (nn : Nat) (hS : SW E x aa A nn G) (hn : nn < 600) (s : Int32) : gM l yX10_sound cX10_sound 3 (some .int) 5 2 160 E b0 G [.ref x, .int s] (pI (fun v9 G1 => v9 = (sp_sound A s).1 ∧ ∃ aa1 n1, n1 ≤ nn + 1 ∧ SW E x aa1 (sp_sound A s).2 n1 G1)) := by
  obtain rfl : aa 0 = x := hS.2.2.1
  refine gM.of (by decide +kernel) (Nat.le_of_ble_eq_true rfl) ?_
  intro pP eP sP mI bP meth cP ls hx hb hr hml hown hlocks hnm hts hK hI hl
  have hl : lv_has ls 3 [(0, .ref (aa 0)), (1, .int s)] := hl
  have hown : sP.vm.findClass RX10 = some mI.cls := hown
  refine lv_iload_n hx hb dX10_sound_0 rfl (lv_at hl 1 rfl) ?_
  refine g_callS (own := RX10) (index := 23) (n := 1) hx hb hml hown hts (c_X10_isShelf l E b0 _ s) m_ml_X10_23 m_st_X10_isShelf m_in_X10 m_co_X10_isShelf (by decide +kernel) ⟨Nat.le_of_ble_eq_true rfl, Nat.le_of_ble_eq_true rfl⟩ ⟨by first | exact Nat.le_of_ble_eq_true rfl | (show _ ≤ 2; omega), by first | exact Nat.le_of_ble_eq_true rfl | (show _ ≤ 160; omega)⟩ rfl hl.1 rfl (Nat.le_of_ble_eq_true rfl) dX10_sound_1 hK hI (fun r G1 H1 L1 hp hI => ?_)
  obtain ⟨v, rfl, hGe, ⟨h_1, rfl⟩ | ⟨h_1, rfl⟩⟩ := hp
  · rw [hGe] at hI
    refine W.eq (g2 := F0 mI 4 ls [.int 1]) rfl ?_
    refine lv_if_ne (tgt := 9) hx hb dX10_sound_4 (by decide) (fun _ => ?_) (fun c_2 => absurd c_2 (by decide))
    refine lv_aload_n hx hb dX10_sound_9 rfl (lv_at hl 0 rfl) ?_
    refine g_get (index := 11) (ci := 8) hx hb hts inlX10 hown hK hI hS.2.2.2.1 rfl 0 (by decide) m_fl_X10_11 (fun _ h9 => h9) rfl dX10_sound_10 ?_
    refine lv_iload_n hx hb dX10_sound_13 rfl (lv_at hl 1 rfl) ?_
    rcases btf (eqb (A 0 (ix s)) 0) with h_3 | h_3
    · have z_4 := fun lo hi => fit_0 (A := A) lo hi h_3
      have t_5 : tv nn (A 0 (ix s)) := (hS.tsh h_1)
      refine g_aald hx hb hK hI 1 hS.2.2.2.2.1 rfl (sh_in h_1) dX10_sound_14 ?_
      refine W.eq (g2 := F0 mI 15 ls [.null]) (by rw [show shf aa A (Int32.toNatClampNeg s) = adr aa (A 0 (ix s)) from shf_at h_1, adr_n h_3]; rfl) ?_
      refine g_callS (own := RX10) (index := 54) (n := 1) hx hb hml hown hts (c_X10_asHive_n l E b0 _) m_ml_X10_54 m_st_X10_asHive m_in_X10 m_co_X10_asHive (by decide +kernel) ⟨Nat.le_of_ble_eq_true rfl, Nat.le_of_ble_eq_true rfl⟩ ⟨by first | exact Nat.le_of_ble_eq_true rfl | (show _ ≤ 2; omega), by first | exact Nat.le_of_ble_eq_true rfl | (show _ ≤ 160; omega)⟩ rfl hl.1 rfl (Nat.le_of_ble_eq_true rfl) dX10_sound_15 hK hI (fun r G1 H1 L1 hp hI => ?_)
      obtain ⟨v, rfl, ev, hGe⟩ := hp
      subst ev
      rw [hGe] at hI
      refine W.eq (g2 := F0 mI 18 ls [.null]) rfl ?_
      refine lv_astore_nN (lv' := [(2, .null), (0, .ref (aa 0)), (1, .int s)]) hx hb dX10_sound_18 rfl hl (by decide) rfl (fun ls hl => ?_)
      refine lv_aload_nN hx hb dX10_sound_19 rfl (lv_at hl 0 rfl) ?_
      refine lv_ifnullN (tgt := 30) hx hb dX10_sound_20 (by decide) ?_
      refine lv_aload_n hx hb dX10_sound_30 rfl (lv_at hl 1 rfl) ?_
      refine lv_aload_n hx hb dX10_sound_31 rfl (lv_at hl 1 rfl) ?_
      refine g_get (index := 11) (ci := 8) hx hb hts inlX10 hown hK hI hS.2.2.2.1 rfl 0 (by decide) m_fl_X10_11 (fun _ h9 => h9) rfl dX10_sound_32 ?_
      refine lv_iload_n hx hb dX10_sound_35 rfl (lv_at hl 2 rfl) ?_
      refine g_aald hx hb hK hI 1 hS.2.2.2.2.1 rfl (sh_in h_1) dX10_sound_36 ?_
      refine W.eq (g2 := F0 mI 37 ls [.null, .ref (aa 0)]) (by rw [show shf aa A (Int32.toNatClampNeg s) = adr aa (A 0 (ix s)) from shf_at h_1, adr_n h_3]; rfl) ?_
      refine g_callS (own := RX10) (index := 66) (n := 1) hx hb hml hown hts (c_X10_castOrNull_n l E b0 _) m_ml_X10_66 m_st_X10_castOrNull m_in_X10 m_co_X10_castOrNull (by decide +kernel) ⟨Nat.le_of_ble_eq_true rfl, Nat.le_of_ble_eq_true rfl⟩ ⟨by first | exact Nat.le_of_ble_eq_true rfl | (show _ ≤ 2; omega), by first | exact Nat.le_of_ble_eq_true rfl | (show _ ≤ 160; omega)⟩ rfl hl.1 rfl (Nat.le_of_ble_eq_true rfl) dX10_sound_37 hK hI (fun r G1 H1 L1 hp hI => ?_)
      obtain ⟨v, rfl, ev, hGe⟩ := hp
      subst ev
      rw [hGe] at hI
      refine W.eq (g2 := F0 mI 40 ls [.int 1, .ref (aa 0)]) rfl ?_
      refine g_callV (own := RX10) (index := 31) (n := 1) hx hb hml hown hts (c_X10_refuse l E b0 _ _ aa _ nn hS hn 1 (vp_in_iff.mpr (by decide))) hS.2.2.2.1 rfl rfl m_ml_X10_31 m_im_X10_refuse m_se_X10_X10_refuse_X10_refuse m_in_X10 m_co_X10_refuse (by decide +kernel) ⟨Nat.le_of_ble_eq_true rfl, Nat.le_of_ble_eq_true rfl⟩ ⟨by first | exact Nat.le_of_ble_eq_true rfl | (show _ ≤ 2; omega), by first | exact Nat.le_of_ble_eq_true rfl | (show _ ≤ 160; omega)⟩ rfl hl.1 rfl (Nat.le_of_ble_eq_true rfl) dX10_sound_40 hK hI (fun r G1 H1 L1 hp hI => ?_)
      obtain ⟨v, rfl, ev, hS⟩ := hp
      subst ev
      refine W.eq (g2 := F0 mI 43 ls [.int (-10 - 1)]) rfl ?_
      have e9 : sp_sound A s = ((-10 - 1), (rfs A 1)) := by
        simp only [sp_sound, rfi, rfj, wHv, wRw, wSl, h_1, h_3, z_4, eqb_00, eqb_10, eqb_20, eqb_30, eqb_50, eqb_11, eqb_21, reduceIte, Bool.false_eq_true, not_true_eq_false, not_false_eq_true, ite_self]
      exact g_iret hx hb hr hlocks hI ⟨_, rfl, by rw [e9], aa, nn, by omega, by rw [e9]; exact hS⟩ dX10_sound_43 (by omega) (by omega)
    · have _ := 0
      have t_6 : tv nn (A 0 (ix s)) := (hS.tsh h_1)
      refine g_aald hx hb hK hI 1 hS.2.2.2.2.1 rfl (sh_in h_1) dX10_sound_14 ?_
      refine W.eq (g2 := F0 mI 15 ls [.ref (aa (4 * ix (A 0 (ix s))))]) (by rw [show shf aa A (Int32.toNatClampNeg s) = adr aa (A 0 (ix s)) from shf_at h_1, adr_s h_3]; rfl) ?_
      rcases btf (fit A (A 0 (ix s)) 6 7) with h_7 | h_7
      · have _ := 0
        refine g_callS (own := RX10) (index := 54) (n := 1) hx hb hml hown hts (c_X10_asHive_y l E b0 _ (aa (4 * ix (A 0 (ix s)))) _ _ (hS.at hn t_6 h_3) (cix_in _) (hS.gs hn t_6 h_3 5 (by decide) h_7)) m_ml_X10_54 m_st_X10_asHive m_in_X10 m_co_X10_asHive (by decide +kernel) ⟨Nat.le_of_ble_eq_true rfl, Nat.le_of_ble_eq_true rfl⟩ ⟨by first | exact Nat.le_of_ble_eq_true rfl | (show _ ≤ 2; omega), by first | exact Nat.le_of_ble_eq_true rfl | (show _ ≤ 160; omega)⟩ rfl hl.1 rfl (Nat.le_of_ble_eq_true rfl) dX10_sound_15 hK hI (fun r G1 H1 L1 hp hI => ?_)
        obtain ⟨v, rfl, ev, hGe⟩ := hp
        subst ev
        rw [hGe] at hI
        refine W.eq (g2 := F0 mI 18 ls [.ref (aa (4 * ix (A 0 (ix s))))]) rfl ?_
        refine lv_astore_n (lv' := [(2, .ref (aa (4 * ix (A 0 (ix s))))), (0, .ref (aa 0)), (1, .int s)]) hx hb dX10_sound_18 rfl hl (by decide) rfl (fun ls hl => ?_)
        refine lv_aload_n hx hb dX10_sound_19 rfl (lv_at hl 0 rfl) ?_
        refine lv_ifnull hx hb dX10_sound_20 ?_
        refine lv_aload_n hx hb dX10_sound_23 rfl (lv_at hl 0 rfl) ?_
        rcases btf (eqb (A 12 (ix (A 0 (ix s)))) 0) with h_8 | h_8
        · have z_9 := fun lo hi => fit_0 (A := A) lo hi h_8
          have t_10 : tv nn (A 12 (ix (A 0 (ix s)))) := (hS.tpt hn t_6 12 (by decide))
          refine g_get (index := 148) (ci := 5) hx hb hts inlX5 hown hK hI (hS.hv hn t_6 h_3 h_7) rfl 5 (by decide) m_fl_X10_148 (fun _ h9 => h9) rfl dX10_sound_24 ?_
          refine W.eq (g2 := F0 mI 27 ls [.null]) (by rw [adr_n h_8]; rfl) ?_
          refine lv_ifnonnullN hx hb dX10_sound_27 ?_
          refine lv_aload_n hx hb dX10_sound_30 rfl (lv_at hl 1 rfl) ?_
          refine lv_aload_n hx hb dX10_sound_31 rfl (lv_at hl 1 rfl) ?_
          refine g_get (index := 11) (ci := 8) hx hb hts inlX10 hown hK hI hS.2.2.2.1 rfl 0 (by decide) m_fl_X10_11 (fun _ h9 => h9) rfl dX10_sound_32 ?_
          refine lv_iload_n hx hb dX10_sound_35 rfl (lv_at hl 2 rfl) ?_
          refine g_aald hx hb hK hI 1 hS.2.2.2.2.1 rfl (sh_in h_1) dX10_sound_36 ?_
          refine W.eq (g2 := F0 mI 37 ls [.ref (aa (4 * ix (A 0 (ix s)))), .ref (aa 0)]) (by rw [show shf aa A (Int32.toNatClampNeg s) = adr aa (A 0 (ix s)) from shf_at h_1, adr_s h_3]; rfl) ?_
          refine g_callS (own := RX10) (index := 66) (n := 1) hx hb hml hown hts (c_X10_castOrNull_y l E b0 _ (aa (4 * ix (A 0 (ix s)))) _ _ (hS.at hn t_6 h_3) (cix_in _) (hS.gs hn t_6 h_3 5 (by decide) h_7)) m_ml_X10_66 m_st_X10_castOrNull m_in_X10 m_co_X10_castOrNull (by decide +kernel) ⟨Nat.le_of_ble_eq_true rfl, Nat.le_of_ble_eq_true rfl⟩ ⟨by first | exact Nat.le_of_ble_eq_true rfl | (show _ ≤ 2; omega), by first | exact Nat.le_of_ble_eq_true rfl | (show _ ≤ 160; omega)⟩ rfl hl.1 rfl (Nat.le_of_ble_eq_true rfl) dX10_sound_37 hK hI (fun r G1 H1 L1 hp hI => ?_)
          obtain ⟨v, rfl, ev, hGe⟩ := hp
          subst ev
          rw [hGe] at hI
          refine W.eq (g2 := F0 mI 40 ls [.int 1, .ref (aa 0)]) rfl ?_
          refine g_callV (own := RX10) (index := 31) (n := 1) hx hb hml hown hts (c_X10_refuse l E b0 _ _ aa _ nn hS hn 1 (vp_in_iff.mpr (by decide))) hS.2.2.2.1 rfl rfl m_ml_X10_31 m_im_X10_refuse m_se_X10_X10_refuse_X10_refuse m_in_X10 m_co_X10_refuse (by decide +kernel) ⟨Nat.le_of_ble_eq_true rfl, Nat.le_of_ble_eq_true rfl⟩ ⟨by first | exact Nat.le_of_ble_eq_true rfl | (show _ ≤ 2; omega), by first | exact Nat.le_of_ble_eq_true rfl | (show _ ≤ 160; omega)⟩ rfl hl.1 rfl (Nat.le_of_ble_eq_true rfl) dX10_sound_40 hK hI (fun r G1 H1 L1 hp hI => ?_)
          obtain ⟨v, rfl, ev, hS⟩ := hp
          subst ev
          refine W.eq (g2 := F0 mI 43 ls [.int (-10 - 1)]) rfl ?_
          have e9 : sp_sound A s = ((-10 - 1), (rfs A 1)) := by
            simp only [sp_sound, rfi, rfj, wHv, wRw, wSl, h_1, h_3, h_7, h_8, z_9, eqb_00, eqb_10, eqb_20, eqb_30, eqb_50, eqb_11, eqb_21, reduceIte, Bool.false_eq_true, not_true_eq_false, not_false_eq_true, ite_self]
          exact g_iret hx hb hr hlocks hI ⟨_, rfl, by rw [e9], aa, nn, by omega, by rw [e9]; exact hS⟩ dX10_sound_43 (by omega) (by omega)
        · have _ := 0
          have t_11 : tv nn (A 12 (ix (A 0 (ix s)))) := (hS.tpt hn t_6 12 (by decide))
          have f_12 := (hS.fpt hn t_6 h_3).2.2
          refine g_get (index := 148) (ci := 5) hx hb hts inlX5 hown hK hI (hS.hv hn t_6 h_3 h_7) rfl 5 (by decide) m_fl_X10_148 (fun _ h9 => h9) rfl dX10_sound_24 ?_
          refine W.eq (g2 := F0 mI 27 ls [.ref (aa (4 * ix (A 12 (ix (A 0 (ix s))))))]) (by rw [adr_s h_8]; rfl) ?_
          refine lv_ifnonnull (tgt := 44) hx hb dX10_sound_27 (by decide) ?_
          refine lv_aload_n hx hb dX10_sound_44 rfl (lv_at hl 1 rfl) ?_
          refine lv_aload_n hx hb dX10_sound_45 rfl (lv_at hl 0 rfl) ?_
          have f_13 := (hS.fpt hn t_6 h_3).2.2
          refine g_get (index := 148) (ci := 5) hx hb hts inlX5 hown hK hI (hS.hv hn t_6 h_3 h_7) rfl 5 (by decide) m_fl_X10_148 (fun _ h9 => h9) rfl dX10_sound_46 ?_
          refine W.eq (g2 := F0 mI 49 ls [.ref (aa (4 * ix (A 12 (ix (A 0 (ix s)))))), .ref (aa 0)]) (by rw [adr_s h_8]; rfl) ?_
          have h_14 := fit_pt (A := A) h_8 f_13
          refine g_get (index := 152) (ci := 0) hx hb hts inlX0 hown hK hI (((hS.at hn t_11 h_8)).trans (congrArg some (thc_5 h_14))) rfl 1 (by decide) m_fl_X10_152 (fun _ h9 => h9) rfl dX10_sound_49 ?_
          refine g_put (index := 19) (ci := 8) hx hb hts inlX10 tyX10 tyX10_ok nmX10 hown hK hI hS.2.2.2.1 rfl 2 (by decide) m_fl_X10_19 (fun _ h9 => h9) rfl rfl rfl (Nat.le_of_ble_eq_true rfl) dX10_sound_52 (fun H1 L1 hI => ?_)
          have hS := hS.p14 (A 3 (ix (A 12 (ix (A 0 (ix s))))))
          refine W.eq (g2 := F0 mI 55 ls []) rfl ?_
          refine lv_aload_n hx hb dX10_sound_55 rfl (lv_at hl 1 rfl) ?_
          refine lv_bipush (v := 6) hx hb dX10_sound_56 (by decide) ?_
          refine g_callV (own := RX10) (index := 31) (n := 1) hx hb hml hown hts (c_X10_refuse l E b0 _ _ aa _ nn hS hn 6 (vp_in_iff.mpr (by decide))) hS.2.2.2.1 rfl rfl m_ml_X10_31 m_im_X10_refuse m_se_X10_X10_refuse_X10_refuse m_in_X10 m_co_X10_refuse (by decide +kernel) ⟨Nat.le_of_ble_eq_true rfl, Nat.le_of_ble_eq_true rfl⟩ ⟨by first | exact Nat.le_of_ble_eq_true rfl | (show _ ≤ 2; omega), by first | exact Nat.le_of_ble_eq_true rfl | (show _ ≤ 160; omega)⟩ rfl hl.1 rfl (Nat.le_of_ble_eq_true rfl) dX10_sound_58 hK hI (fun r G1 H1 L1 hp hI => ?_)
          obtain ⟨v, rfl, ev, hS⟩ := hp
          subst ev
          refine W.eq (g2 := F0 mI 61 ls [.int (-10 - 6)]) rfl ?_
          have e9 : sp_sound A s = ((-10 - 6), (rfs (u2 A 14 0 (A 3 (ix (A 12 (ix (A 0 (ix s))))))) 6)) := by
            simp only [sp_sound, rfi, rfj, wHv, wRw, wSl, h_1, h_3, h_7, h_8, eqb_00, eqb_10, eqb_20, eqb_30, eqb_50, eqb_11, eqb_21, reduceIte, Bool.false_eq_true, not_true_eq_false, not_false_eq_true, ite_self]
          exact g_iret hx hb hr hlocks hI ⟨_, rfl, by rw [e9], aa, nn, by omega, by rw [e9]; exact hS⟩ dX10_sound_61 (by omega) (by omega)
      · have _ := 0
        refine g_callS (own := RX10) (index := 54) (n := 1) hx hb hml hown hts (c_X10_asHive_f l E b0 _ (aa (4 * ix (A 0 (ix s)))) _ _ (hS.at hn t_6 h_3) (cix_in _) (hS.gs hn t_6 h_3 5 (by decide) h_7)) m_ml_X10_54 m_st_X10_asHive m_in_X10 m_co_X10_asHive (by decide +kernel) ⟨Nat.le_of_ble_eq_true rfl, Nat.le_of_ble_eq_true rfl⟩ ⟨by first | exact Nat.le_of_ble_eq_true rfl | (show _ ≤ 2; omega), by first | exact Nat.le_of_ble_eq_true rfl | (show _ ≤ 160; omega)⟩ rfl hl.1 rfl (Nat.le_of_ble_eq_true rfl) dX10_sound_15 hK hI (fun r G1 H1 L1 hp hI => ?_)
        obtain ⟨v, rfl, ev, hGe⟩ := hp
        subst ev
        rw [hGe] at hI
        refine W.eq (g2 := F0 mI 18 ls [.null]) rfl ?_
        refine lv_astore_nN (lv' := [(2, .null), (0, .ref (aa 0)), (1, .int s)]) hx hb dX10_sound_18 rfl hl (by decide) rfl (fun ls hl => ?_)
        refine lv_aload_nN hx hb dX10_sound_19 rfl (lv_at hl 0 rfl) ?_
        refine lv_ifnullN (tgt := 30) hx hb dX10_sound_20 (by decide) ?_
        refine lv_aload_n hx hb dX10_sound_30 rfl (lv_at hl 1 rfl) ?_
        refine lv_aload_n hx hb dX10_sound_31 rfl (lv_at hl 1 rfl) ?_
        refine g_get (index := 11) (ci := 8) hx hb hts inlX10 hown hK hI hS.2.2.2.1 rfl 0 (by decide) m_fl_X10_11 (fun _ h9 => h9) rfl dX10_sound_32 ?_
        refine lv_iload_n hx hb dX10_sound_35 rfl (lv_at hl 2 rfl) ?_
        refine g_aald hx hb hK hI 1 hS.2.2.2.2.1 rfl (sh_in h_1) dX10_sound_36 ?_
        refine W.eq (g2 := F0 mI 37 ls [.ref (aa (4 * ix (A 0 (ix s)))), .ref (aa 0)]) (by rw [show shf aa A (Int32.toNatClampNeg s) = adr aa (A 0 (ix s)) from shf_at h_1, adr_s h_3]; rfl) ?_
        refine g_callS (own := RX10) (index := 66) (n := 1) hx hb hml hown hts (c_X10_castOrNull_f l E b0 _ (aa (4 * ix (A 0 (ix s)))) _ _ (hS.at hn t_6 h_3) (cix_in _) (hS.gs hn t_6 h_3 5 (by decide) h_7)) m_ml_X10_66 m_st_X10_castOrNull m_in_X10 m_co_X10_castOrNull (by decide +kernel) ⟨Nat.le_of_ble_eq_true rfl, Nat.le_of_ble_eq_true rfl⟩ ⟨by first | exact Nat.le_of_ble_eq_true rfl | (show _ ≤ 2; omega), by first | exact Nat.le_of_ble_eq_true rfl | (show _ ≤ 160; omega)⟩ rfl hl.1 rfl (Nat.le_of_ble_eq_true rfl) dX10_sound_37 hK hI (fun r G1 H1 L1 hp hI => ?_)
        obtain ⟨v, rfl, ev, hGe⟩ := hp
        subst ev
        rw [hGe] at hI
        refine W.eq (g2 := F0 mI 40 ls [.int 5, .ref (aa 0)]) rfl ?_
        refine g_callV (own := RX10) (index := 31) (n := 1) hx hb hml hown hts (c_X10_refuse l E b0 _ _ aa _ nn hS hn 5 (vp_in_iff.mpr (by decide))) hS.2.2.2.1 rfl rfl m_ml_X10_31 m_im_X10_refuse m_se_X10_X10_refuse_X10_refuse m_in_X10 m_co_X10_refuse (by decide +kernel) ⟨Nat.le_of_ble_eq_true rfl, Nat.le_of_ble_eq_true rfl⟩ ⟨by first | exact Nat.le_of_ble_eq_true rfl | (show _ ≤ 2; omega), by first | exact Nat.le_of_ble_eq_true rfl | (show _ ≤ 160; omega)⟩ rfl hl.1 rfl (Nat.le_of_ble_eq_true rfl) dX10_sound_40 hK hI (fun r G1 H1 L1 hp hI => ?_)
        obtain ⟨v, rfl, ev, hS⟩ := hp
        subst ev
        refine W.eq (g2 := F0 mI 43 ls [.int (-10 - 5)]) rfl ?_
        have e9 : sp_sound A s = ((-10 - 5), (rfs A 5)) := by
          simp only [sp_sound, rfi, rfj, wHv, wRw, wSl, h_1, h_3, h_7, eqb_00, eqb_10, eqb_20, eqb_30, eqb_50, eqb_11, eqb_21, reduceIte, Bool.false_eq_true, not_true_eq_false, not_false_eq_true, ite_self]
        exact g_iret hx hb hr hlocks hI ⟨_, rfl, by rw [e9], aa, nn, by omega, by rw [e9]; exact hS⟩ dX10_sound_43 (by omega) (by omega)
  · rw [hGe] at hI
    refine W.eq (g2 := F0 mI 4 ls [.int 0]) rfl ?_
    refine lv_if_ne (tgt := 9) hx hb dX10_sound_4 (by decide) (fun c_15 => absurd c_15 (by decide)) (fun _ => ?_)
    refine lv_iconst (v := -1) hx hb dX10_sound_7 (by decide) ?_
    have e9 : sp_sound A s = ((-1), A) := by
      simp only [sp_sound, rfi, rfj, wHv, wRw, wSl, h_1, eqb_00, eqb_10, eqb_20, eqb_30, eqb_50, eqb_11, eqb_21, reduceIte, Bool.false_eq_true, not_true_eq_false, not_false_eq_true, ite_self]
    exact g_iret hx hb hr hlocks hI ⟨_, rfl, by rw [e9], aa, nn, by omega, by rw [e9]; exact hS⟩ dX10_sound_8 (by omega) (by omega)
set_option maxHeartbeats 4000000 in
set_option maxRecDepth 100000 in
theorem c_X10_sort (l : Launch) (E : gE) (b0 : Nat) (G : gG) (x : Nat) (aa : Nat → Nat) (A : gA) (nn : Nat) (hS : SW E x aa A nn G) (hn : nn < 600) (s : Int32) : gM l yX10_sort cX10_sort 3 (some .int) 5 2 160 E b0 G [.ref x, .int s] (pI (fun v9 G1 => v9 = (sp_sort A s).1 ∧ ∃ aa1 n1, n1 ≤ nn + 1 ∧ SW E x aa1 (sp_sort A s).2 n1 G1)) := by
  obtain rfl : aa 0 = x := hS.2.2.1
  refine gM.of (by decide +kernel) (Nat.le_of_ble_eq_true rfl) ?_
  intro pP eP sP mI bP meth cP ls hx hb hr hml hown hlocks hnm hts hK hI hl
  have hl : lv_has ls 3 [(0, .ref (aa 0)), (1, .int s)] := hl
  have hown : sP.vm.findClass RX10 = some mI.cls := hown
  refine lv_iload_n hx hb dX10_sort_0 rfl (lv_at hl 1 rfl) ?_
  refine g_callS (own := RX10) (index := 23) (n := 1) hx hb hml hown hts (c_X10_isShelf l E b0 _ s) m_ml_X10_23 m_st_X10_isShelf m_in_X10 m_co_X10_isShelf (by decide +kernel) ⟨Nat.le_of_ble_eq_true rfl, Nat.le_of_ble_eq_true rfl⟩ ⟨by first | exact Nat.le_of_ble_eq_true rfl | (show _ ≤ 2; omega), by first | exact Nat.le_of_ble_eq_true rfl | (show _ ≤ 160; omega)⟩ rfl hl.1 rfl (Nat.le_of_ble_eq_true rfl) dX10_sort_1 hK hI (fun r G1 H1 L1 hp hI => ?_)
  obtain ⟨v, rfl, hGe, ⟨h_1, rfl⟩ | ⟨h_1, rfl⟩⟩ := hp
  · rw [hGe] at hI
    refine W.eq (g2 := F0 mI 4 ls [.int 1]) rfl ?_
    refine lv_if_ne (tgt := 9) hx hb dX10_sort_4 (by decide) (fun _ => ?_) (fun c_2 => absurd c_2 (by decide))
    refine lv_aload_n hx hb dX10_sort_9 rfl (lv_at hl 0 rfl) ?_
    refine g_get (index := 11) (ci := 8) hx hb hts inlX10 hown hK hI hS.2.2.2.1 rfl 0 (by decide) m_fl_X10_11 (fun _ h9 => h9) rfl dX10_sort_10 ?_
    refine lv_iload_n hx hb dX10_sort_13 rfl (lv_at hl 1 rfl) ?_
    rcases btf (eqb (A 0 (ix s)) 0) with h_3 | h_3
    · have z_4 := fun lo hi => fit_0 (A := A) lo hi h_3
      have t_5 : tv nn (A 0 (ix s)) := (hS.tsh h_1)
      refine g_aald hx hb hK hI 1 hS.2.2.2.2.1 rfl (sh_in h_1) dX10_sort_14 ?_
      refine W.eq (g2 := F0 mI 15 ls [.null]) (by rw [show shf aa A (Int32.toNatClampNeg s) = adr aa (A 0 (ix s)) from shf_at h_1, adr_n h_3]; rfl) ?_
      refine lv_astore_nN (lv' := [(2, .null), (0, .ref (aa 0)), (1, .int s)]) hx hb dX10_sort_15 rfl hl (by decide) rfl (fun ls hl => ?_)
      refine lv_aload_nN hx hb dX10_sort_16 rfl (lv_at hl 0 rfl) ?_
      refine lv_ifnonnullN hx hb dX10_sort_17 ?_
      refine lv_bipush (v := -2) hx hb dX10_sort_20 (by decide) ?_
      refine lv_goto (tgt := 29) hx hb dX10_sort_22 (by decide) ?_
      have e9 : sp_sort A s = ((-2), A) := by
        simp only [sp_sort, rfi, rfj, wHv, wRw, wSl, h_1, h_3, z_4, eqb_00, eqb_10, eqb_20, eqb_30, eqb_50, eqb_11, eqb_21, reduceIte, Bool.false_eq_true, not_true_eq_false, not_false_eq_true, ite_self]
      exact g_iret hx hb hr hlocks hI ⟨_, rfl, by rw [e9], aa, nn, by omega, by rw [e9]; exact hS⟩ dX10_sort_29 (by omega) (by omega)
    · have _ := 0
      have t_6 : tv nn (A 0 (ix s)) := (hS.tsh h_1)
      refine g_aald hx hb hK hI 1 hS.2.2.2.2.1 rfl (sh_in h_1) dX10_sort_14 ?_
      refine W.eq (g2 := F0 mI 15 ls [.ref (aa (4 * ix (A 0 (ix s))))]) (by rw [show shf aa A (Int32.toNatClampNeg s) = adr aa (A 0 (ix s)) from shf_at h_1, adr_s h_3]; rfl) ?_
      refine lv_astore_n (lv' := [(2, .ref (aa (4 * ix (A 0 (ix s))))), (0, .ref (aa 0)), (1, .int s)]) hx hb dX10_sort_15 rfl hl (by decide) rfl (fun ls hl => ?_)
      refine lv_aload_n hx hb dX10_sort_16 rfl (lv_at hl 0 rfl) ?_
      refine lv_ifnonnull (tgt := 25) hx hb dX10_sort_17 (by decide) ?_
      refine lv_aload_n hx hb dX10_sort_25 rfl (lv_at hl 0 rfl) ?_
      rcases so8 (hS.so hn t_6 h_3) with h_7 | h_7 | h_7 | h_7 | h_7 | h_7 | h_7 | h_7
      · have r_8 := eqb_i.mp h_7
        refine g_get (index := 157) (ci := 4) hx hb hts inlX4 hown hK hI (((hS.at hn t_6 h_3)).trans (congrArg some (thc_0 h_7))) rfl 0 (by decide) m_fl_X10_157 (fun _ h9 => h9) rfl dX10_sort_26 ?_
        have e9 : sp_sort A s = (0, A) := by
          simp only [sp_sort, rfi, rfj, wHv, wRw, wSl, h_1, h_3, r_8, eqb_00, eqb_10, eqb_20, eqb_30, eqb_50, eqb_11, eqb_21, reduceIte, Bool.false_eq_true, not_true_eq_false, not_false_eq_true, ite_self]
        exact g_iret hx hb hr hlocks hI ⟨_, rfl, by rw [e9], aa, nn, by omega, by rw [e9]; exact hS⟩ dX10_sort_29 (by omega) (by omega)
      · have r_9 := eqb_i.mp h_7
        refine g_get (index := 157) (ci := 1) hx hb hts inlX1 hown hK hI (((hS.at hn t_6 h_3)).trans (congrArg some (thc_1 h_7))) rfl 1 (by decide) m_fl_X10_157 (fun _ h9 => h9) rfl dX10_sort_26 ?_
        have e9 : sp_sort A s = (1, A) := by
          simp only [sp_sort, rfi, rfj, wHv, wRw, wSl, h_1, h_3, r_9, eqb_00, eqb_10, eqb_20, eqb_30, eqb_50, eqb_11, eqb_21, reduceIte, Bool.false_eq_true, not_true_eq_false, not_false_eq_true, ite_self]
        exact g_iret hx hb hr hlocks hI ⟨_, rfl, by rw [e9], aa, nn, by omega, by rw [e9]; exact hS⟩ dX10_sort_29 (by omega) (by omega)
      · have r_10 := eqb_i.mp h_7
        refine g_get (index := 157) (ci := 6) hx hb hts inlX7 hown hK hI (((hS.at hn t_6 h_3)).trans (congrArg some (thc_2 h_7))) rfl 0 (by decide) m_fl_X10_157 (fun _ h9 => h9) rfl dX10_sort_26 ?_
        have e9 : sp_sort A s = (2, A) := by
          simp only [sp_sort, rfi, rfj, wHv, wRw, wSl, h_1, h_3, r_10, eqb_00, eqb_10, eqb_20, eqb_30, eqb_50, eqb_11, eqb_21, reduceIte, Bool.false_eq_true, not_true_eq_false, not_false_eq_true, ite_self]
        exact g_iret hx hb hr hlocks hI ⟨_, rfl, by rw [e9], aa, nn, by omega, by rw [e9]; exact hS⟩ dX10_sort_29 (by omega) (by omega)
      · have r_11 := eqb_i.mp h_7
        refine g_get (index := 157) (ci := 7) hx hb hts inlX8 hown hK hI (((hS.at hn t_6 h_3)).trans (congrArg some (thc_3 h_7))) rfl 1 (by decide) m_fl_X10_157 (fun _ h9 => h9) rfl dX10_sort_26 ?_
        have e9 : sp_sort A s = (3, A) := by
          simp only [sp_sort, rfi, rfj, wHv, wRw, wSl, h_1, h_3, r_11, eqb_00, eqb_10, eqb_20, eqb_30, eqb_50, eqb_11, eqb_21, reduceIte, Bool.false_eq_true, not_true_eq_false, not_false_eq_true, ite_self]
        exact g_iret hx hb hr hlocks hI ⟨_, rfl, by rw [e9], aa, nn, by omega, by rw [e9]; exact hS⟩ dX10_sort_29 (by omega) (by omega)
      · have r_12 := eqb_i.mp h_7
        refine g_get (index := 157) (ci := 3) hx hb hts inlX3 hown hK hI (((hS.at hn t_6 h_3)).trans (congrArg some (thc_4 h_7))) rfl 1 (by decide) m_fl_X10_157 (fun _ h9 => h9) rfl dX10_sort_26 ?_
        have e9 : sp_sort A s = (4, A) := by
          simp only [sp_sort, rfi, rfj, wHv, wRw, wSl, h_1, h_3, r_12, eqb_00, eqb_10, eqb_20, eqb_30, eqb_50, eqb_11, eqb_21, reduceIte, Bool.false_eq_true, not_true_eq_false, not_false_eq_true, ite_self]
        exact g_iret hx hb hr hlocks hI ⟨_, rfl, by rw [e9], aa, nn, by omega, by rw [e9]; exact hS⟩ dX10_sort_29 (by omega) (by omega)
      · have r_13 := eqb_i.mp h_7
        refine g_get (index := 157) (ci := 0) hx hb hts inlX0 hown hK hI (((hS.at hn t_6 h_3)).trans (congrArg some (thc_5 h_7))) rfl 0 (by decide) m_fl_X10_157 (fun _ h9 => h9) rfl dX10_sort_26 ?_
        have e9 : sp_sort A s = (5, A) := by
          simp only [sp_sort, rfi, rfj, wHv, wRw, wSl, h_1, h_3, r_13, eqb_00, eqb_10, eqb_20, eqb_30, eqb_50, eqb_11, eqb_21, reduceIte, Bool.false_eq_true, not_true_eq_false, not_false_eq_true, ite_self]
        exact g_iret hx hb hr hlocks hI ⟨_, rfl, by rw [e9], aa, nn, by omega, by rw [e9]; exact hS⟩ dX10_sort_29 (by omega) (by omega)
      · have r_14 := eqb_i.mp h_7
        have f_15 : fit A (A 0 (ix s)) 6 7 = true := by rw [fit_so h_3, r_14]; decide
        refine g_get (index := 157) (ci := 5) hx hb hts inlX5 hown hK hI (hS.hv hn t_6 h_3 f_15) rfl 0 (by decide) m_fl_X10_157 (fun _ h9 => h9) rfl dX10_sort_26 ?_
        have e9 : sp_sort A s = ((A 2 (ix (A 0 (ix s)))), A) := by
          simp only [sp_sort, rfi, rfj, wHv, wRw, wSl, h_1, h_3, r_14, eqb_00, eqb_10, eqb_20, eqb_30, eqb_50, eqb_11, eqb_21, reduceIte, Bool.false_eq_true, not_true_eq_false, not_false_eq_true, ite_self]
        exact g_iret hx hb hr hlocks hI ⟨_, rfl, by rw [e9], aa, nn, by omega, by rw [e9]; exact hS⟩ dX10_sort_29 (by omega) (by omega)
      · have r_16 := eqb_i.mp h_7
        have f_17 : fit A (A 0 (ix s)) 6 7 = true := by rw [fit_so h_3, r_16]; decide
        refine g_get (index := 157) (ci := 5) hx hb hts inlX5 hown hK hI (hS.hv hn t_6 h_3 f_17) rfl 0 (by decide) m_fl_X10_157 (fun _ h9 => h9) rfl dX10_sort_26 ?_
        have e9 : sp_sort A s = ((A 2 (ix (A 0 (ix s)))), A) := by
          simp only [sp_sort, rfi, rfj, wHv, wRw, wSl, h_1, h_3, r_16, eqb_00, eqb_10, eqb_20, eqb_30, eqb_50, eqb_11, eqb_21, reduceIte, Bool.false_eq_true, not_true_eq_false, not_false_eq_true, ite_self]
        exact g_iret hx hb hr hlocks hI ⟨_, rfl, by rw [e9], aa, nn, by omega, by rw [e9]; exact hS⟩ dX10_sort_29 (by omega) (by omega)
  · rw [hGe] at hI
    refine W.eq (g2 := F0 mI 4 ls [.int 0]) rfl ?_
    refine lv_if_ne (tgt := 9) hx hb dX10_sort_4 (by decide) (fun c_18 => absurd c_18 (by decide)) (fun _ => ?_)
    refine lv_iconst (v := -1) hx hb dX10_sort_7 (by decide) ?_
    have e9 : sp_sort A s = ((-1), A) := by
      simp only [sp_sort, rfi, rfj, wHv, wRw, wSl, h_1, eqb_00, eqb_10, eqb_20, eqb_30, eqb_50, eqb_11, eqb_21, reduceIte, Bool.false_eq_true, not_true_eq_false, not_false_eq_true, ite_self]
    exact g_iret hx hb hr hlocks hI ⟨_, rfl, by rw [e9], aa, nn, by omega, by rw [e9]; exact hS⟩ dX10_sort_8 (by omega) (by omega)
set_option maxHeartbeats 4000000 in
set_option maxRecDepth 100000 in
theorem c_X10_count (l : Launch) (E : gE) (b0 : Nat) (G : gG) (x : Nat) (aa : Nat → Nat) (A : gA) (nn : Nat) (hS : SW E x aa A nn G) (hn : nn < 600) (w : Int32) : gM l yX10_count cX10_count 2 (some .int) 5 2 160 E b0 G [.ref x, .int w] (pI (fun v9 G1 => v9 = (sp_count A w).1 ∧ ∃ aa1 n1, n1 ≤ nn + 1 ∧ SW E x aa1 (sp_count A w).2 n1 G1)) := by
  obtain rfl : aa 0 = x := hS.2.2.1
  refine gM.of (by decide +kernel) (Nat.le_of_ble_eq_true rfl) ?_
  intro pP eP sP mI bP meth cP ls hx hb hr hml hown hlocks hnm hts hK hI hl
  have hl : lv_has ls 2 [(0, .ref (aa 0)), (1, .int w)] := hl
  have hown : sP.vm.findClass RX10 = some mI.cls := hown
  refine lv_iload_n hx hb dX10_count_0 rfl (lv_at hl 1 rfl) ?_
  refine lv_if_lt (tgt := 10) hx hb dX10_count_1 (by decide) (fun c_1 => ?_) (fun c_1 => ?_)
  · refine lv_iconst (v := -1) hx hb dX10_count_10 (by decide) ?_
    have e9 : sp_count A w = ((-1), A) := by
      simp only [sp_count, inb, decide_true, decide_false, Bool.not_false, Bool.not_true, Bool.and_true, Bool.true_and, Bool.false_and, Bool.and_false, Bool.and_self, rfi, rfj, wHv, wRw, wSl, c_1, eqb_00, eqb_10, eqb_20, eqb_30, eqb_50, eqb_11, eqb_21, reduceIte, Bool.false_eq_true, not_true_eq_false, not_false_eq_true, ite_self]
    exact g_iret hx hb hr hlocks hI ⟨_, rfl, by rw [e9], aa, nn, by omega, by rw [e9]; exact hS⟩ dX10_count_11 (by omega) (by omega)
  · refine lv_iload_n hx hb dX10_count_4 rfl (lv_at hl 1 rfl) ?_
    refine lv_bipush (v := 7) hx hb dX10_count_5 (by decide) ?_
    refine lv_icmp_le (tgt := 12) hx hb dX10_count_7 (by decide) (fun c_2 => ?_) (fun c_2 => ?_)
    · have c_2 := Int32.not_lt.mpr c_2
      refine lv_iload_n hx hb dX10_count_12 rfl (lv_at hl 1 rfl) ?_
      refine lv_bipush (v := 7) hx hb dX10_count_13 (by decide) ?_
      refine lv_icmp_ne (tgt := 25) hx hb dX10_count_15 (by decide) (fun c_3 => ?_) (fun c_3 => ?_)
      · have q_4 := eqb_f c_3
        refine lv_aload_n hx hb dX10_count_25 rfl (lv_at hl 0 rfl) ?_
        refine g_get (index := 15) (ci := 8) hx hb hts inlX10 hown hK hI hS.2.2.2.1 rfl 1 (by decide) m_fl_X10_15 (fun _ h9 => h9) rfl dX10_count_26 ?_
        refine lv_iload_n hx hb dX10_count_29 rfl (lv_at hl 1 rfl) ?_
        refine g_iald hx hb hK hI hS.2.2.2.2.2.1 (cnt_in2 c_1 c_2 c_3) dX10_count_30 ?_
        refine W.eq (g2 := F0 mI 31 ls [.int (A 13 (ix w))]) rfl ?_
        have e9 : sp_count A w = ((A 13 (ix w)), A) := by
          simp only [sp_count, inb, decide_true, decide_false, Bool.not_false, Bool.not_true, Bool.and_true, Bool.true_and, Bool.false_and, Bool.and_false, Bool.and_self, rfi, rfj, wHv, wRw, wSl, c_1, c_2, q_4, eqb_00, eqb_10, eqb_20, eqb_30, eqb_50, eqb_11, eqb_21, reduceIte, Bool.false_eq_true, not_true_eq_false, not_false_eq_true, ite_self]
        exact g_iret hx hb hr hlocks hI ⟨_, rfl, by rw [e9], aa, nn, by omega, by rw [e9]; exact hS⟩ dX10_count_31 (by omega) (by omega)
      · have q_5 := eqb_t c_3
        refine lv_aload_n hx hb dX10_count_18 rfl (lv_at hl 0 rfl) ?_
        refine g_get (index := 19) (ci := 8) hx hb hts inlX10 hown hK hI hS.2.2.2.1 rfl 2 (by decide) m_fl_X10_19 (fun _ h9 => h9) rfl dX10_count_19 ?_
        refine lv_goto (tgt := 31) hx hb dX10_count_22 (by decide) ?_
        have e9 : sp_count A w = ((A 14 0), A) := by
          simp only [sp_count, inb, decide_true, decide_false, Bool.not_false, Bool.not_true, Bool.and_true, Bool.true_and, Bool.false_and, Bool.and_false, Bool.and_self, rfi, rfj, wHv, wRw, wSl, c_1, c_2, q_5, eqb_00, eqb_10, eqb_20, eqb_30, eqb_50, eqb_11, eqb_21, reduceIte, Bool.false_eq_true, not_true_eq_false, not_false_eq_true, ite_self]
        exact g_iret hx hb hr hlocks hI ⟨_, rfl, by rw [e9], aa, nn, by omega, by rw [e9]; exact hS⟩ dX10_count_31 (by omega) (by omega)
    · have c_2 := Int32.not_le.mp c_2
      refine lv_iconst (v := -1) hx hb dX10_count_10 (by decide) ?_
      have e9 : sp_count A w = ((-1), A) := by
        simp only [sp_count, inb, decide_true, decide_false, Bool.not_false, Bool.not_true, Bool.and_true, Bool.true_and, Bool.false_and, Bool.and_false, Bool.and_self, rfi, rfj, wHv, wRw, wSl, c_1, c_2, eqb_00, eqb_10, eqb_20, eqb_30, eqb_50, eqb_11, eqb_21, reduceIte, Bool.false_eq_true, not_true_eq_false, not_false_eq_true, ite_self]
      exact g_iret hx hb hr hlocks hI ⟨_, rfl, by rw [e9], aa, nn, by omega, by rw [e9]; exact hS⟩ dX10_count_11 (by omega) (by omega)
theorem SW.inj {E : gE} {x : Nat} {aa : Nat → Nat} {A : gA} {n : Nat} {G : gG} (hS : SW E x aa A n G) (hn : n < 600) {u w : Int32} (hu : tv n u) (hu0 : eqb u 0 = false) (hw : tv n w) (hw0 : eqb w 0 = false) (h : aa (4 * ix u) = aa (4 * ix w)) : u = w := by
  have := hS.2.2.2.2.2.2.2.2.2 _ _ (lvt (hu.pos hn hu0) (hu.ixle hn).1) (lvt (hw.pos hn hw0) (hw.ixle hn).1) h
  rw [(hu.ixle hn).2, (hw.ixle hn).2, show ix u = ix w by omega]
set_option maxHeartbeats 4000000 in
set_option maxRecDepth 100000 in
theorem c_X10_same (l : Launch) (E : gE) (b0 : Nat) (G : gG) (x : Nat) (aa : Nat → Nat) (A : gA) (nn : Nat) (hS : SW E x aa A nn G) (hn : nn < 600) (s f : Int32) : gM l yX10_same cX10_same 3 (some .int) 5 2 160 E b0 G [.ref x, .int s, .int f] (pI (fun v9 G1 => v9 = (sp_same A s f).1 ∧ ∃ aa1 n1, n1 ≤ nn + 1 ∧ SW E x aa1 (sp_same A s f).2 n1 G1)) := by
  obtain rfl : aa 0 = x := hS.2.2.1
  refine gM.of (by decide +kernel) (Nat.le_of_ble_eq_true rfl) ?_
  intro pP eP sP mI bP meth cP ls hx hb hr hml hown hlocks hnm hts hK hI hl
  have hl : lv_has ls 3 [(0, .ref (aa 0)), (1, .int s), (2, .int f)] := hl
  have hown : sP.vm.findClass RX10 = some mI.cls := hown
  refine lv_iload_n hx hb dX10_same_0 rfl (lv_at hl 1 rfl) ?_
  refine g_callS (own := RX10) (index := 23) (n := 1) hx hb hml hown hts (c_X10_isShelf l E b0 _ s) m_ml_X10_23 m_st_X10_isShelf m_in_X10 m_co_X10_isShelf (by decide +kernel) ⟨Nat.le_of_ble_eq_true rfl, Nat.le_of_ble_eq_true rfl⟩ ⟨by first | exact Nat.le_of_ble_eq_true rfl | (show _ ≤ 2; omega), by first | exact Nat.le_of_ble_eq_true rfl | (show _ ≤ 160; omega)⟩ rfl hl.1 rfl (Nat.le_of_ble_eq_true rfl) dX10_same_1 hK hI (fun r G1 H1 L1 hp hI => ?_)
  obtain ⟨v, rfl, hGe, ⟨h_1, rfl⟩ | ⟨h_1, rfl⟩⟩ := hp
  · rw [hGe] at hI
    refine W.eq (g2 := F0 mI 4 ls [.int 1]) rfl ?_
    refine lv_if_eq (tgt := 14) hx hb dX10_same_4 (by decide) (fun c_2 => absurd c_2 (by decide)) (fun _ => ?_)
    refine lv_iload_n hx hb dX10_same_7 rfl (lv_at hl 2 rfl) ?_
    refine g_callS (own := RX10) (index := 23) (n := 1) hx hb hml hown hts (c_X10_isShelf l E b0 _ f) m_ml_X10_23 m_st_X10_isShelf m_in_X10 m_co_X10_isShelf (by decide +kernel) ⟨Nat.le_of_ble_eq_true rfl, Nat.le_of_ble_eq_true rfl⟩ ⟨by first | exact Nat.le_of_ble_eq_true rfl | (show _ ≤ 2; omega), by first | exact Nat.le_of_ble_eq_true rfl | (show _ ≤ 160; omega)⟩ rfl hl.1 rfl (Nat.le_of_ble_eq_true rfl) dX10_same_8 hK hI (fun r G1 H1 L1 hp hI => ?_)
    obtain ⟨v, rfl, hGe, ⟨h_3, rfl⟩ | ⟨h_3, rfl⟩⟩ := hp
    · rw [hGe] at hI
      refine W.eq (g2 := F0 mI 11 ls [.int 1]) rfl ?_
      refine lv_if_ne (tgt := 16) hx hb dX10_same_11 (by decide) (fun _ => ?_) (fun c_4 => absurd c_4 (by decide))
      refine lv_aload_n hx hb dX10_same_16 rfl (lv_at hl 0 rfl) ?_
      refine g_get (index := 11) (ci := 8) hx hb hts inlX10 hown hK hI hS.2.2.2.1 rfl 0 (by decide) m_fl_X10_11 (fun _ h9 => h9) rfl dX10_same_17 ?_
      refine lv_iload_n hx hb dX10_same_20 rfl (lv_at hl 1 rfl) ?_
      rcases btf (eqb (A 0 (ix s)) 0) with h_5 | h_5
      · have z_6 := fun lo hi => fit_0 (A := A) lo hi h_5
        have t_7 : tv nn (A 0 (ix s)) := (hS.tsh h_1)
        refine g_aald hx hb hK hI 1 hS.2.2.2.2.1 rfl (sh_in h_1) dX10_same_21 ?_
        refine W.eq (g2 := F0 mI 22 ls [.null]) (by rw [show shf aa A (Int32.toNatClampNeg s) = adr aa (A 0 (ix s)) from shf_at h_1, adr_n h_5]; rfl) ?_
        refine lv_aload_n hx hb dX10_same_22 rfl (lv_at hl 0 rfl) ?_
        refine g_get (index := 11) (ci := 8) hx hb hts inlX10 hown hK hI hS.2.2.2.1 rfl 0 (by decide) m_fl_X10_11 (fun _ h9 => h9) rfl dX10_same_23 ?_
        refine lv_iload_n hx hb dX10_same_26 rfl (lv_at hl 2 rfl) ?_
        rcases btf (eqb (A 0 (ix f)) 0) with h_8 | h_8
        · have z_9 := fun lo hi => fit_0 (A := A) lo hi h_8
          have t_10 : tv nn (A 0 (ix f)) := (hS.tsh h_3)
          refine g_aald hx hb hK hI 1 hS.2.2.2.2.1 rfl (sh_in h_3) dX10_same_27 ?_
          refine W.eq (g2 := F0 mI 28 ls [.null, .null]) (by rw [show shf aa A (Int32.toNatClampNeg f) = adr aa (A 0 (ix f)) from shf_at h_3, adr_n h_8]; rfl) ?_
          have h_12 : eqb (A 0 (ix s)) (A 0 (ix f)) = true := eqb_t ((eqb_i.mp h_5).trans (eqb_i.mp h_8).symm)
          refine lv_acmp_ne (rx := none) (ry := none) (tgt := 35) hx hb dX10_same_28 (by decide) (fun c_11 => absurd rfl c_11) (fun _ => ?_)
          refine lv_iconst (v := 1) hx hb dX10_same_31 (by decide) ?_
          refine lv_goto (tgt := 36) hx hb dX10_same_32 (by decide) ?_
          have e9 : sp_same A s f = (1, A) := by
            simp only [sp_same, rfi, rfj, wHv, wRw, wSl, h_1, h_3, h_5, z_6, h_8, z_9, h_12, eqb_00, eqb_10, eqb_20, eqb_30, eqb_50, eqb_11, eqb_21, reduceIte, Bool.false_eq_true, not_true_eq_false, not_false_eq_true, ite_self]
          exact g_iret hx hb hr hlocks hI ⟨_, rfl, by rw [e9], aa, nn, by omega, by rw [e9]; exact hS⟩ dX10_same_36 (by omega) (by omega)
        · have _ := 0
          have t_13 : tv nn (A 0 (ix f)) := (hS.tsh h_3)
          refine g_aald hx hb hK hI 1 hS.2.2.2.2.1 rfl (sh_in h_3) dX10_same_27 ?_
          refine W.eq (g2 := F0 mI 28 ls [.ref (aa (4 * ix (A 0 (ix f)))), .null]) (by rw [show shf aa A (Int32.toNatClampNeg f) = adr aa (A 0 (ix f)) from shf_at h_3, adr_s h_8]; rfl) ?_
          have h_15 : eqb (A 0 (ix s)) (A 0 (ix f)) = false := eqb_f (fun z => by rw [← z, h_5] at h_8; cases h_8)
          refine lv_acmp_ne (rx := none) (ry := some (aa (4 * ix (A 0 (ix f))))) (tgt := 35) hx hb dX10_same_28 (by decide) (fun _ => ?_) (fun c_14 => by cases c_14)
          refine lv_iconst (v := 0) hx hb dX10_same_35 (by decide) ?_
          have e9 : sp_same A s f = (0, A) := by
            simp only [sp_same, rfi, rfj, wHv, wRw, wSl, h_1, h_3, h_5, z_6, h_8, h_15, eqb_00, eqb_10, eqb_20, eqb_30, eqb_50, eqb_11, eqb_21, reduceIte, Bool.false_eq_true, not_true_eq_false, not_false_eq_true, ite_self]
          exact g_iret hx hb hr hlocks hI ⟨_, rfl, by rw [e9], aa, nn, by omega, by rw [e9]; exact hS⟩ dX10_same_36 (by omega) (by omega)
      · have _ := 0
        have t_16 : tv nn (A 0 (ix s)) := (hS.tsh h_1)
        refine g_aald hx hb hK hI 1 hS.2.2.2.2.1 rfl (sh_in h_1) dX10_same_21 ?_
        refine W.eq (g2 := F0 mI 22 ls [.ref (aa (4 * ix (A 0 (ix s))))]) (by rw [show shf aa A (Int32.toNatClampNeg s) = adr aa (A 0 (ix s)) from shf_at h_1, adr_s h_5]; rfl) ?_
        refine lv_aload_n hx hb dX10_same_22 rfl (lv_at hl 0 rfl) ?_
        refine g_get (index := 11) (ci := 8) hx hb hts inlX10 hown hK hI hS.2.2.2.1 rfl 0 (by decide) m_fl_X10_11 (fun _ h9 => h9) rfl dX10_same_23 ?_
        refine lv_iload_n hx hb dX10_same_26 rfl (lv_at hl 2 rfl) ?_
        rcases btf (eqb (A 0 (ix f)) 0) with h_17 | h_17
        · have z_18 := fun lo hi => fit_0 (A := A) lo hi h_17
          have t_19 : tv nn (A 0 (ix f)) := (hS.tsh h_3)
          refine g_aald hx hb hK hI 1 hS.2.2.2.2.1 rfl (sh_in h_3) dX10_same_27 ?_
          refine W.eq (g2 := F0 mI 28 ls [.null, .ref (aa (4 * ix (A 0 (ix s))))]) (by rw [show shf aa A (Int32.toNatClampNeg f) = adr aa (A 0 (ix f)) from shf_at h_3, adr_n h_17]; rfl) ?_
          have h_21 : eqb (A 0 (ix s)) (A 0 (ix f)) = false := eqb_f (fun z => by rw [z, h_17] at h_5; cases h_5)
          refine lv_acmp_ne (rx := some (aa (4 * ix (A 0 (ix s))))) (ry := none) (tgt := 35) hx hb dX10_same_28 (by decide) (fun _ => ?_) (fun c_20 => by cases c_20)
          refine lv_iconst (v := 0) hx hb dX10_same_35 (by decide) ?_
          have e9 : sp_same A s f = (0, A) := by
            simp only [sp_same, rfi, rfj, wHv, wRw, wSl, h_1, h_3, h_5, h_17, z_18, h_21, eqb_00, eqb_10, eqb_20, eqb_30, eqb_50, eqb_11, eqb_21, reduceIte, Bool.false_eq_true, not_true_eq_false, not_false_eq_true, ite_self]
          exact g_iret hx hb hr hlocks hI ⟨_, rfl, by rw [e9], aa, nn, by omega, by rw [e9]; exact hS⟩ dX10_same_36 (by omega) (by omega)
        · have _ := 0
          have t_22 : tv nn (A 0 (ix f)) := (hS.tsh h_3)
          refine g_aald hx hb hK hI 1 hS.2.2.2.2.1 rfl (sh_in h_3) dX10_same_27 ?_
          refine W.eq (g2 := F0 mI 28 ls [.ref (aa (4 * ix (A 0 (ix f)))), .ref (aa (4 * ix (A 0 (ix s))))]) (by rw [show shf aa A (Int32.toNatClampNeg f) = adr aa (A 0 (ix f)) from shf_at h_3, adr_s h_17]; rfl) ?_
          rcases btf (eqb (A 0 (ix s)) (A 0 (ix f))) with h_23 | h_23
          · have _ := 0
            refine lv_acmp_ne (rx := some (aa (4 * ix (A 0 (ix s))))) (ry := some (aa (4 * ix (A 0 (ix f))))) (tgt := 35) hx hb dX10_same_28 (by decide) (fun c_24 => absurd (by rw [eqb_i.mp h_23]) c_24) (fun _ => ?_)
            refine lv_iconst (v := 1) hx hb dX10_same_31 (by decide) ?_
            refine lv_goto (tgt := 36) hx hb dX10_same_32 (by decide) ?_
            have e9 : sp_same A s f = (1, A) := by
              simp only [sp_same, rfi, rfj, wHv, wRw, wSl, h_1, h_3, h_5, h_17, h_23, eqb_00, eqb_10, eqb_20, eqb_30, eqb_50, eqb_11, eqb_21, reduceIte, Bool.false_eq_true, not_true_eq_false, not_false_eq_true, ite_self]
            exact g_iret hx hb hr hlocks hI ⟨_, rfl, by rw [e9], aa, nn, by omega, by rw [e9]; exact hS⟩ dX10_same_36 (by omega) (by omega)
          · have _ := 0
            refine lv_acmp_ne (rx := some (aa (4 * ix (A 0 (ix s))))) (ry := some (aa (4 * ix (A 0 (ix f))))) (tgt := 35) hx hb dX10_same_28 (by decide) (fun _ => ?_) (fun c_25 => absurd (hS.inj hn t_16 h_5 t_22 h_17 (Option.some.inj c_25)) (fun z => by rw [eqb_t z] at h_23; cases h_23))
            refine lv_iconst (v := 0) hx hb dX10_same_35 (by decide) ?_
            have e9 : sp_same A s f = (0, A) := by
              simp only [sp_same, rfi, rfj, wHv, wRw, wSl, h_1, h_3, h_5, h_17, h_23, eqb_00, eqb_10, eqb_20, eqb_30, eqb_50, eqb_11, eqb_21, reduceIte, Bool.false_eq_true, not_true_eq_false, not_false_eq_true, ite_self]
            exact g_iret hx hb hr hlocks hI ⟨_, rfl, by rw [e9], aa, nn, by omega, by rw [e9]; exact hS⟩ dX10_same_36 (by omega) (by omega)
    · rw [hGe] at hI
      refine W.eq (g2 := F0 mI 11 ls [.int 0]) rfl ?_
      refine lv_if_ne (tgt := 16) hx hb dX10_same_11 (by decide) (fun c_26 => absurd c_26 (by decide)) (fun _ => ?_)
      refine lv_iconst (v := -1) hx hb dX10_same_14 (by decide) ?_
      have e9 : sp_same A s f = ((-1), A) := by
        simp only [sp_same, rfi, rfj, wHv, wRw, wSl, h_1, h_3, eqb_00, eqb_10, eqb_20, eqb_30, eqb_50, eqb_11, eqb_21, reduceIte, Bool.false_eq_true, not_true_eq_false, not_false_eq_true, ite_self]
      exact g_iret hx hb hr hlocks hI ⟨_, rfl, by rw [e9], aa, nn, by omega, by rw [e9]; exact hS⟩ dX10_same_15 (by omega) (by omega)
  · rw [hGe] at hI
    refine W.eq (g2 := F0 mI 4 ls [.int 0]) rfl ?_
    refine lv_if_eq (tgt := 14) hx hb dX10_same_4 (by decide) (fun _ => ?_) (fun c_27 => absurd c_27 (by decide))
    refine lv_iconst (v := -1) hx hb dX10_same_14 (by decide) ?_
    have e9 : sp_same A s f = ((-1), A) := by
      simp only [sp_same, rfi, rfj, wHv, wRw, wSl, h_1, eqb_00, eqb_10, eqb_20, eqb_30, eqb_50, eqb_11, eqb_21, reduceIte, Bool.false_eq_true, not_true_eq_false, not_false_eq_true, ite_self]
    exact g_iret hx hb hr hlocks hI ⟨_, rfl, by rw [e9], aa, nn, by omega, by rw [e9]; exact hS⟩ dX10_same_15 (by omega) (by omega)
