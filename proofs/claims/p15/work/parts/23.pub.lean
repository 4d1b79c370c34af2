set_option maxHeartbeats 4000000 in
set_option maxRecDepth 100000 in
theorem c_X10_row (l : Launch) (E : gE) (b0 : Nat) (G : gG) (x : Nat) (aa : Nat → Nat) (A : gA) (nn : Nat) (hS : SW E x aa A nn G) (hn : nn < 600) (s n : Int32) : gM l yX10_row cX10_row 4 (some .int) 5 2 160 E b0 G [.ref x, .int s, .int n] (pI (fun v9 G1 => v9 = (sp_row A s n).1 ∧ ∃ aa1 n1, n1 ≤ nn + 1 ∧ SW E x aa1 (sp_row A s n).2 n1 G1)) := by
  obtain rfl : aa 0 = x := hS.2.2.1
  refine gM.of (by decide +kernel) (Nat.le_of_ble_eq_true rfl) ?_
  intro pP eP sP mI bP meth cP ls hx hb hr hml hown hlocks hnm hts hK hI hl
  have hl : lv_has ls 4 [(0, .ref (aa 0)), (1, .int s), (2, .int n)] := hl
  have hown : sP.vm.findClass RX10 = some mI.cls := hown
  refine lv_iload_n hx hb dX10_row_0 rfl (lv_at hl 1 rfl) ?_
  refine g_callS (own := RX10) (index := 23) (n := 1) hx hb hml hown hts (c_X10_isShelf l E b0 _ s) m_ml_X10_23 m_st_X10_isShelf m_in_X10 m_co_X10_isShelf (by decide +kernel) ⟨Nat.le_of_ble_eq_true rfl, Nat.le_of_ble_eq_true rfl⟩ ⟨by first | exact Nat.le_of_ble_eq_true rfl | (show _ ≤ 2; omega), by first | exact Nat.le_of_ble_eq_true rfl | (show _ ≤ 160; omega)⟩ rfl hl.1 rfl (Nat.le_of_ble_eq_true rfl) dX10_row_1 hK hI (fun r G1 H1 L1 hp hI => ?_)
  obtain ⟨v, rfl, hGe, ⟨h_1, rfl⟩ | ⟨h_1, rfl⟩⟩ := hp
  · rw [hGe] at hI
    refine W.eq (g2 := F0 mI 4 ls [.int 1]) rfl ?_
    refine lv_if_eq (tgt := 13) hx hb dX10_row_4 (by decide) (fun c_2 => absurd c_2 (by decide)) (fun _ => ?_)
    refine lv_iload_n hx hb dX10_row_7 rfl (lv_at hl 2 rfl) ?_
    refine lv_bipush (v := 30) hx hb dX10_row_8 (by decide) ?_
    refine lv_icmp_le (tgt := 15) hx hb dX10_row_10 (by decide) (fun c_3 => ?_) (fun c_3 => ?_)
    · have c_3 := Int32.not_lt.mpr c_3
      refine lv_aload_n hx hb dX10_row_15 rfl (lv_at hl 0 rfl) ?_
      refine g_get (index := 11) (ci := 8) hx hb hts inlX10 hown hK hI hS.2.2.2.1 rfl 0 (by decide) m_fl_X10_11 (fun _ h9 => h9) rfl dX10_row_16 ?_
      refine lv_iload_n hx hb dX10_row_19 rfl (lv_at hl 1 rfl) ?_
      rcases btf (eqb (A 0 (ix s)) 0) with h_4 | h_4
      · have z_5 := fun lo hi => fit_0 (A := A) lo hi h_4
        have t_6 : tv nn (A 0 (ix s)) := (hS.tsh h_1)
        refine g_aald hx hb hK hI 1 hS.2.2.2.2.1 rfl (sh_in h_1) dX10_row_20 ?_
        refine W.eq (g2 := F0 mI 21 ls [.null]) (by rw [show shf aa A (Int32.toNatClampNeg s) = adr aa (A 0 (ix s)) from shf_at h_1, adr_n h_4]; rfl) ?_
        refine g_callS (own := RX10) (index := 46) (n := 1) hx hb hml hown hts (c_X10_isNoHive_n l E b0 _) m_ml_X10_46 m_st_X10_isNoHive m_in_X10 m_co_X10_isNoHive (by decide +kernel) ⟨Nat.le_of_ble_eq_true rfl, Nat.le_of_ble_eq_true rfl⟩ ⟨by first | exact Nat.le_of_ble_eq_true rfl | (show _ ≤ 2; omega), by first | exact Nat.le_of_ble_eq_true rfl | (show _ ≤ 160; omega)⟩ rfl hl.1 rfl (Nat.le_of_ble_eq_true rfl) dX10_row_21 hK hI (fun r G1 H1 L1 hp hI => ?_)
        obtain ⟨v, rfl, ev, hGe⟩ := hp
        subst ev
        rw [hGe] at hI
        refine W.eq (g2 := F0 mI 24 ls [.int 0]) rfl ?_
        refine lv_if_eq (tgt := 33) hx hb dX10_row_24 (by decide) (fun _ => ?_) (fun c_7 => absurd c_7 (by decide))
        refine lv_iload_n hx hb dX10_row_33 rfl (lv_at hl 2 rfl) ?_
        refine lv_if_ge (tgt := 43) hx hb dX10_row_34 (by decide) (fun c_8 => ?_) (fun c_8 => ?_)
        · have c_8 := Int32.not_lt.mpr c_8
          refine lv_aload_n hx hb dX10_row_43 rfl (lv_at hl 0 rfl) ?_
          refine g_get (index := 11) (ci := 8) hx hb hts inlX10 hown hK hI hS.2.2.2.1 rfl 0 (by decide) m_fl_X10_11 (fun _ h9 => h9) rfl dX10_row_44 ?_
          refine lv_iload_n hx hb dX10_row_47 rfl (lv_at hl 1 rfl) ?_
          refine g_aald hx hb hK hI 1 hS.2.2.2.2.1 rfl (sh_in h_1) dX10_row_48 ?_
          refine W.eq (g2 := F0 mI 49 ls [.null]) (by rw [show shf aa A (Int32.toNatClampNeg s) = adr aa (A 0 (ix s)) from shf_at h_1, adr_n h_4]; rfl) ?_
          refine g_callS (own := RX10) (index := 54) (n := 1) hx hb hml hown hts (c_X10_asHive_n l E b0 _) m_ml_X10_54 m_st_X10_asHive m_in_X10 m_co_X10_asHive (by decide +kernel) ⟨Nat.le_of_ble_eq_true rfl, Nat.le_of_ble_eq_true rfl⟩ ⟨by first | exact Nat.le_of_ble_eq_true rfl | (show _ ≤ 2; omega), by first | exact Nat.le_of_ble_eq_true rfl | (show _ ≤ 160; omega)⟩ rfl hl.1 rfl (Nat.le_of_ble_eq_true rfl) dX10_row_49 hK hI (fun r G1 H1 L1 hp hI => ?_)
          obtain ⟨v, rfl, ev, hGe⟩ := hp
          subst ev
          rw [hGe] at hI
          refine W.eq (g2 := F0 mI 52 ls [.null]) rfl ?_
          refine lv_astore_nN (lv' := [(3, .null), (0, .ref (aa 0)), (1, .int s), (2, .int n)]) hx hb dX10_row_52 rfl hl (by decide) rfl (fun ls hl => ?_)
          refine lv_aload_nN hx hb dX10_row_53 rfl (lv_at hl 0 rfl) ?_
          refine lv_ifnonnullN hx hb dX10_row_54 ?_
          refine lv_aload_n hx hb dX10_row_57 rfl (lv_at hl 1 rfl) ?_
          refine lv_iconst (v := 1) hx hb dX10_row_58 (by decide) ?_
          refine g_callV (own := RX10) (index := 31) (n := 1) hx hb hml hown hts (c_X10_refuse l E b0 _ _ aa _ nn hS hn 1 (vp_in_iff.mpr (by decide))) hS.2.2.2.1 rfl rfl m_ml_X10_31 m_im_X10_refuse m_se_X10_X10_refuse_X10_refuse m_in_X10 m_co_X10_refuse (by decide +kernel) ⟨Nat.le_of_ble_eq_true rfl, Nat.le_of_ble_eq_true rfl⟩ ⟨by first | exact Nat.le_of_ble_eq_true rfl | (show _ ≤ 2; omega), by first | exact Nat.le_of_ble_eq_true rfl | (show _ ≤ 160; omega)⟩ rfl hl.1 rfl (Nat.le_of_ble_eq_true rfl) dX10_row_59 hK hI (fun r G1 H1 L1 hp hI => ?_)
          obtain ⟨v, rfl, ev, hS⟩ := hp
          subst ev
          refine W.eq (g2 := F0 mI 62 ls [.int (-10 - 1)]) rfl ?_
          have e9 : sp_row A s n = ((-10 - 1), (rfs A 1)) := by
            simp only [sp_row, rfi, rfj, wHv, wRw, wSl, h_1, c_3, h_4, z_5, c_8, eqb_00, eqb_10, eqb_20, eqb_30, eqb_50, eqb_11, eqb_21, reduceIte, Bool.false_eq_true, not_true_eq_false, not_false_eq_true, ite_self]
          exact g_iret hx hb hr hlocks hI ⟨_, rfl, by rw [e9], aa, nn, by omega, by rw [e9]; exact hS⟩ dX10_row_62 (by omega) (by omega)
        · have c_8 := Int32.not_le.mp c_8
          refine lv_aload_n hx hb dX10_row_37 rfl (lv_at hl 0 rfl) ?_
          refine lv_iconst (v := 2) hx hb dX10_row_38 (by decide) ?_
          refine g_callV (own := RX10) (index := 31) (n := 1) hx hb hml hown hts (c_X10_refuse l E b0 _ _ aa _ nn hS hn 2 (vp_in_iff.mpr (by decide))) hS.2.2.2.1 rfl rfl m_ml_X10_31 m_im_X10_refuse m_se_X10_X10_refuse_X10_refuse m_in_X10 m_co_X10_refuse (by decide +kernel) ⟨Nat.le_of_ble_eq_true rfl, Nat.le_of_ble_eq_true rfl⟩ ⟨by first | exact Nat.le_of_ble_eq_true rfl | (show _ ≤ 2; omega), by first | exact Nat.le_of_ble_eq_true rfl | (show _ ≤ 160; omega)⟩ rfl hl.1 rfl (Nat.le_of_ble_eq_true rfl) dX10_row_39 hK hI (fun r G1 H1 L1 hp hI => ?_)
          obtain ⟨v, rfl, ev, hS⟩ := hp
          subst ev
          refine W.eq (g2 := F0 mI 42 ls [.int (-10 - 2)]) rfl ?_
          have e9 : sp_row A s n = ((-10 - 2), (rfs A 2)) := by
            simp only [sp_row, rfi, rfj, wHv, wRw, wSl, h_1, c_3, h_4, z_5, c_8, eqb_00, eqb_10, eqb_20, eqb_30, eqb_50, eqb_11, eqb_21, reduceIte, Bool.false_eq_true, not_true_eq_false, not_false_eq_true, ite_self]
          exact g_iret hx hb hr hlocks hI ⟨_, rfl, by rw [e9], aa, nn, by omega, by rw [e9]; exact hS⟩ dX10_row_42 (by omega) (by omega)
      · have _ := 0
        have t_9 : tv nn (A 0 (ix s)) := (hS.tsh h_1)
        refine g_aald hx hb hK hI 1 hS.2.2.2.2.1 rfl (sh_in h_1) dX10_row_20 ?_
        refine W.eq (g2 := F0 mI 21 ls [.ref (aa (4 * ix (A 0 (ix s))))]) (by rw [show shf aa A (Int32.toNatClampNeg s) = adr aa (A 0 (ix s)) from shf_at h_1, adr_s h_4]; rfl) ?_
        rcases btf (fit A (A 0 (ix s)) 6 7) with h_10 | h_10
        · have _ := 0
          refine g_callS (own := RX10) (index := 46) (n := 1) hx hb hml hown hts (c_X10_isNoHive_y l E b0 _ (aa (4 * ix (A 0 (ix s)))) _ _ (hS.at hn t_9 h_4) (cix_in _) (hS.gs hn t_9 h_4 5 (by decide) h_10)) m_ml_X10_46 m_st_X10_isNoHive m_in_X10 m_co_X10_isNoHive (by decide +kernel) ⟨Nat.le_of_ble_eq_true rfl, Nat.le_of_ble_eq_true rfl⟩ ⟨by first | exact Nat.le_of_ble_eq_true rfl | (show _ ≤ 2; omega), by first | exact Nat.le_of_ble_eq_true rfl | (show _ ≤ 160; omega)⟩ rfl hl.1 rfl (Nat.le_of_ble_eq_true rfl) dX10_row_21 hK hI (fun r G1 H1 L1 hp hI => ?_)
          obtain ⟨v, rfl, ev, hGe⟩ := hp
          subst ev
          rw [hGe] at hI
          refine W.eq (g2 := F0 mI 24 ls [.int 0]) rfl ?_
          refine lv_if_eq (tgt := 33) hx hb dX10_row_24 (by decide) (fun _ => ?_) (fun c_11 => absurd c_11 (by decide))
          refine lv_iload_n hx hb dX10_row_33 rfl (lv_at hl 2 rfl) ?_
          refine lv_if_ge (tgt := 43) hx hb dX10_row_34 (by decide) (fun c_12 => ?_) (fun c_12 => ?_)
          · have c_12 := Int32.not_lt.mpr c_12
            refine lv_aload_n hx hb dX10_row_43 rfl (lv_at hl 0 rfl) ?_
            refine g_get (index := 11) (ci := 8) hx hb hts inlX10 hown hK hI hS.2.2.2.1 rfl 0 (by decide) m_fl_X10_11 (fun _ h9 => h9) rfl dX10_row_44 ?_
            refine lv_iload_n hx hb dX10_row_47 rfl (lv_at hl 1 rfl) ?_
            refine g_aald hx hb hK hI 1 hS.2.2.2.2.1 rfl (sh_in h_1) dX10_row_48 ?_
            refine W.eq (g2 := F0 mI 49 ls [.ref (aa (4 * ix (A 0 (ix s))))]) (by rw [show shf aa A (Int32.toNatClampNeg s) = adr aa (A 0 (ix s)) from shf_at h_1, adr_s h_4]; rfl) ?_
            refine g_callS (own := RX10) (index := 54) (n := 1) hx hb hml hown hts (c_X10_asHive_y l E b0 _ (aa (4 * ix (A 0 (ix s)))) _ _ (hS.at hn t_9 h_4) (cix_in _) (hS.gs hn t_9 h_4 5 (by decide) h_10)) m_ml_X10_54 m_st_X10_asHive m_in_X10 m_co_X10_asHive (by decide +kernel) ⟨Nat.le_of_ble_eq_true rfl, Nat.le_of_ble_eq_true rfl⟩ ⟨by first | exact Nat.le_of_ble_eq_true rfl | (show _ ≤ 2; omega), by first | exact Nat.le_of_ble_eq_true rfl | (show _ ≤ 160; omega)⟩ rfl hl.1 rfl (Nat.le_of_ble_eq_true rfl) dX10_row_49 hK hI (fun r G1 H1 L1 hp hI => ?_)
            obtain ⟨v, rfl, ev, hGe⟩ := hp
            subst ev
            rw [hGe] at hI
            refine W.eq (g2 := F0 mI 52 ls [.ref (aa (4 * ix (A 0 (ix s))))]) rfl ?_
            refine lv_astore_n (lv' := [(3, .ref (aa (4 * ix (A 0 (ix s))))), (0, .ref (aa 0)), (1, .int s), (2, .int n)]) hx hb dX10_row_52 rfl hl (by decide) rfl (fun ls hl => ?_)
            refine lv_aload_n hx hb dX10_row_53 rfl (lv_at hl 0 rfl) ?_
            refine lv_ifnonnull (tgt := 63) hx hb dX10_row_54 (by decide) ?_
            refine lv_aload_n hx hb dX10_row_63 rfl (lv_at hl 0 rfl) ?_
            refine lv_iload_n hx hb dX10_row_64 rfl (lv_at hl 3 rfl) ?_
            obtain ⟨j, hj, rfl⟩ := n30 (N := 30) c_12 c_3 (by decide)
            refine g_newq hx hb hts hK hI 2 rfl hown m_cl_X10_37 hK.2.2.1 j (nI_pos (by omega)) (nI_clamp (by omega)) (by omega) (by first | exact Nat.le_of_ble_eq_true rfl | omega) (show _ ≤ 160 by omega) dX10_row_65 (fun q H1 hq hI => ?_)
            refine g_put (index := 62) (ci := 5) hx hb hts inlX5 tyX5 tyX5_ok nmX5 hown hK hI (gu_o hq (hS.hv hn t_9 h_4 h_10)) rfl 1 (by decide) m_fl_X10_62 (fun _ h9 => h9) rfl rfl rfl (Nat.le_of_ble_eq_true rfl) dX10_row_68 (fun H1 L1 hI => ?_)
            have hS := SW.p9 (G1 := gu (gu G q (.inl (E.2.2.2, j, .inr (.inr (.inr (.inr (fun _ => none))))))) (aa (4 * ix (A 0 (ix s)))) (.inr (5, (hvf aa A (ix (A 0 (ix s)))).set 1 (.ref q)))) hS (ix (A 0 (ix s))) j q (t_9.pos hn h_4) (t_9.ixle hn).1 hj hq (fun p h1 h2 => by rw [gu_n h2, gu_n h1]) (by rw [gu_n (ne_o hq (hS.hv hn t_9 h_4 h_10)), gu_s]) (by rw [gu_s]; exact congrArg some (p9y hj (by rw [← fit_so h_4]; exact h_10) (hS.so hn t_9 h_4)))
            refine W.eq (g2 := F0 mI 71 ls []) rfl ?_
            refine lv_iload_n hx hb dX10_row_71 rfl (lv_at hl 3 rfl) ?_
            have e9 : sp_row A s (nI j) = ((nI j), (nrw A (A 0 (ix s)) (nI j))) := by
              simp only [sp_row, rfi, rfj, wHv, wRw, wSl, h_1, c_3, h_4, h_10, c_12, eqb_00, eqb_10, eqb_20, eqb_30, eqb_50, eqb_11, eqb_21, reduceIte, Bool.false_eq_true, not_true_eq_false, not_false_eq_true, ite_self]
            exact g_iret hx hb hr hlocks hI ⟨_, rfl, by rw [e9], _, nn, by omega, by rw [e9]; exact hS⟩ dX10_row_72 (by omega) (by omega)
          · have c_12 := Int32.not_le.mp c_12
            refine lv_aload_n hx hb dX10_row_37 rfl (lv_at hl 0 rfl) ?_
            refine lv_iconst (v := 2) hx hb dX10_row_38 (by decide) ?_
            refine g_callV (own := RX10) (index := 31) (n := 1) hx hb hml hown hts (c_X10_refuse l E b0 _ _ aa _ nn hS hn 2 (vp_in_iff.mpr (by decide))) hS.2.2.2.1 rfl rfl m_ml_X10_31 m_im_X10_refuse m_se_X10_X10_refuse_X10_refuse m_in_X10 m_co_X10_refuse (by decide +kernel) ⟨Nat.le_of_ble_eq_true rfl, Nat.le_of_ble_eq_true rfl⟩ ⟨by first | exact Nat.le_of_ble_eq_true rfl | (show _ ≤ 2; omega), by first | exact Nat.le_of_ble_eq_true rfl | (show _ ≤ 160; omega)⟩ rfl hl.1 rfl (Nat.le_of_ble_eq_true rfl) dX10_row_39 hK hI (fun r G1 H1 L1 hp hI => ?_)
            obtain ⟨v, rfl, ev, hS⟩ := hp
            subst ev
            refine W.eq (g2 := F0 mI 42 ls [.int (-10 - 2)]) rfl ?_
            have e9 : sp_row A s n = ((-10 - 2), (rfs A 2)) := by
              simp only [sp_row, rfi, rfj, wHv, wRw, wSl, h_1, c_3, h_4, h_10, c_12, eqb_00, eqb_10, eqb_20, eqb_30, eqb_50, eqb_11, eqb_21, reduceIte, Bool.false_eq_true, not_true_eq_false, not_false_eq_true, ite_self]
            exact g_iret hx hb hr hlocks hI ⟨_, rfl, by rw [e9], aa, nn, by omega, by rw [e9]; exact hS⟩ dX10_row_42 (by omega) (by omega)
        · have _ := 0
          refine g_callS (own := RX10) (index := 46) (n := 1) hx hb hml hown hts (c_X10_isNoHive_f l E b0 _ (aa (4 * ix (A 0 (ix s)))) _ _ (hS.at hn t_9 h_4) (cix_in _) (hS.gs hn t_9 h_4 5 (by decide) h_10)) m_ml_X10_46 m_st_X10_isNoHive m_in_X10 m_co_X10_isNoHive (by decide +kernel) ⟨Nat.le_of_ble_eq_true rfl, Nat.le_of_ble_eq_true rfl⟩ ⟨by first | exact Nat.le_of_ble_eq_true rfl | (show _ ≤ 2; omega), by first | exact Nat.le_of_ble_eq_true rfl | (show _ ≤ 160; omega)⟩ rfl hl.1 rfl (Nat.le_of_ble_eq_true rfl) dX10_row_21 hK hI (fun r G1 H1 L1 hp hI => ?_)
          obtain ⟨v, rfl, ev, hGe⟩ := hp
          subst ev
          rw [hGe] at hI
          refine W.eq (g2 := F0 mI 24 ls [.int 1]) rfl ?_
          refine lv_if_eq (tgt := 33) hx hb dX10_row_24 (by decide) (fun c_13 => absurd c_13 (by decide)) (fun _ => ?_)
          refine lv_aload_n hx hb dX10_row_27 rfl (lv_at hl 0 rfl) ?_
          refine lv_iconst (v := 5) hx hb dX10_row_28 (by decide) ?_
          refine g_callV (own := RX10) (index := 31) (n := 1) hx hb hml hown hts (c_X10_refuse l E b0 _ _ aa _ nn hS hn 5 (vp_in_iff.mpr (by decide))) hS.2.2.2.1 rfl rfl m_ml_X10_31 m_im_X10_refuse m_se_X10_X10_refuse_X10_refuse m_in_X10 m_co_X10_refuse (by decide +kernel) ⟨Nat.le_of_ble_eq_true rfl, Nat.le_of_ble_eq_true rfl⟩ ⟨by first | exact Nat.le_of_ble_eq_true rfl | (show _ ≤ 2; omega), by first | exact Nat.le_of_ble_eq_true rfl | (show _ ≤ 160; omega)⟩ rfl hl.1 rfl (Nat.le_of_ble_eq_true rfl) dX10_row_29 hK hI (fun r G1 H1 L1 hp hI => ?_)
          obtain ⟨v, rfl, ev, hS⟩ := hp
          subst ev
          refine W.eq (g2 := F0 mI 32 ls [.int (-10 - 5)]) rfl ?_
          have e9 : sp_row A s n = ((-10 - 5), (rfs A 5)) := by
            simp only [sp_row, rfi, rfj, wHv, wRw, wSl, h_1, c_3, h_4, h_10, eqb_00, eqb_10, eqb_20, eqb_30, eqb_50, eqb_11, eqb_21, reduceIte, Bool.false_eq_true, not_true_eq_false, not_false_eq_true, ite_self]
          exact g_iret hx hb hr hlocks hI ⟨_, rfl, by rw [e9], aa, nn, by omega, by rw [e9]; exact hS⟩ dX10_row_32 (by omega) (by omega)
    · have c_3 := Int32.not_le.mp c_3
      refine lv_iconst (v := -1) hx hb dX10_row_13 (by decide) ?_
      have e9 : sp_row A s n = ((-1), A) := by
        simp only [sp_row, rfi, rfj, wHv, wRw, wSl, h_1, c_3, eqb_00, eqb_10, eqb_20, eqb_30, eqb_50, eqb_11, eqb_21, reduceIte, Bool.false_eq_true, not_true_eq_false, not_false_eq_true, ite_self]
      exact g_iret hx hb hr hlocks hI ⟨_, rfl, by rw [e9], aa, nn, by omega, by rw [e9]; exact hS⟩ dX10_row_14 (by omega) (by omega)
  · rw [hGe] at hI
    refine W.eq (g2 := F0 mI 4 ls [.int 0]) rfl ?_
    refine lv_if_eq (tgt := 13) hx hb dX10_row_4 (by decide) (fun _ => ?_) (fun c_14 => absurd c_14 (by decide))
    refine lv_iconst (v := -1) hx hb dX10_row_13 (by decide) ?_
    have e9 : sp_row A s n = ((-1), A) := by
      simp only [sp_row, rfi, rfj, wHv, wRw, wSl, h_1, eqb_00, eqb_10, eqb_20, eqb_30, eqb_50, eqb_11, eqb_21, reduceIte, Bool.false_eq_true, not_true_eq_false, not_false_eq_true, ite_self]
    exact g_iret hx hb hr hlocks hI ⟨_, rfl, by rw [e9], aa, nn, by omega, by rw [e9]; exact hS⟩ dX10_row_14 (by omega) (by omega)
