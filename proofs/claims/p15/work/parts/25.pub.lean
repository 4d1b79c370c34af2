set_option maxHeartbeats 4000000 in
set_option maxRecDepth 100000 in
theorem c_X10_comb (l : Launch) (E : gE) (b0 : Nat) (G : gG) (x : Nat) (aa : Nat → Nat) (A : gA) (nn : Nat) (hS : SW E x aa A nn G) (hn : nn < 600) (s n k : Int32) : gM l yX10_comb cX10_comb 5 (some .int) 5 2 160 E b0 G [.ref x, .int s, .int n, .int k] (pI (fun v9 G1 => v9 = (sp_comb A s n k).1 ∧ ∃ aa1 n1, n1 ≤ nn + 1 ∧ SW E x aa1 (sp_comb A s n k).2 n1 G1)) := by
  obtain rfl : aa 0 = x := hS.2.2.1
  refine gM.of (by decide +kernel) (Nat.le_of_ble_eq_true rfl) ?_
  intro pP eP sP mI bP meth cP ls hx hb hr hml hown hlocks hnm hts hK hI hl
  have hl : lv_has ls 5 [(0, .ref (aa 0)), (1, .int s), (2, .int n), (3, .int k)] := hl
  have hown : sP.vm.findClass RX10 = some mI.cls := hown
  refine lv_iload_n hx hb dX10_comb_0 rfl (lv_at hl 1 rfl) ?_
  refine g_callS (own := RX10) (index := 23) (n := 1) hx hb hml hown hts (c_X10_isShelf l E b0 _ s) m_ml_X10_23 m_st_X10_isShelf m_in_X10 m_co_X10_isShelf (by decide +kernel) ⟨Nat.le_of_ble_eq_true rfl, Nat.le_of_ble_eq_true rfl⟩ ⟨by first | exact Nat.le_of_ble_eq_true rfl | (show _ ≤ 2; omega), by first | exact Nat.le_of_ble_eq_true rfl | (show _ ≤ 160; omega)⟩ rfl hl.1 rfl (Nat.le_of_ble_eq_true rfl) dX10_comb_1 hK hI (fun r G1 H1 L1 hp hI => ?_)
  obtain ⟨v, rfl, hGe, ⟨h_1, rfl⟩ | ⟨h_1, rfl⟩⟩ := hp
  · rw [hGe] at hI
    refine W.eq (g2 := F0 mI 4 ls [.int 1]) rfl ?_
    refine lv_if_eq (tgt := 19) hx hb dX10_comb_4 (by decide) (fun c_2 => absurd c_2 (by decide)) (fun _ => ?_)
    refine lv_iload_n hx hb dX10_comb_7 rfl (lv_at hl 2 rfl) ?_
    refine lv_bipush (v := 12) hx hb dX10_comb_8 (by decide) ?_
    refine lv_icmp_gt (tgt := 19) hx hb dX10_comb_10 (by decide) (fun c_3 => ?_) (fun c_3 => ?_)
    · refine lv_iconst (v := -1) hx hb dX10_comb_19 (by decide) ?_
      have e9 : sp_comb A s n k = ((-1), A) := by
        simp only [sp_comb, rfi, rfj, wHv, wRw, wSl, h_1, c_3, eqb_00, eqb_10, eqb_20, eqb_30, eqb_50, eqb_11, eqb_21, reduceIte, Bool.false_eq_true, not_true_eq_false, not_false_eq_true, ite_self]
      exact g_iret hx hb hr hlocks hI ⟨_, rfl, by rw [e9], aa, nn, by omega, by rw [e9]; exact hS⟩ dX10_comb_20 (by omega) (by omega)
    · refine lv_iload_n hx hb dX10_comb_13 rfl (lv_at hl 3 rfl) ?_
      refine lv_bipush (v := 12) hx hb dX10_comb_14 (by decide) ?_
      refine lv_icmp_le (tgt := 21) hx hb dX10_comb_16 (by decide) (fun c_4 => ?_) (fun c_4 => ?_)
      · have c_4 := Int32.not_lt.mpr c_4
        refine lv_aload_n hx hb dX10_comb_21 rfl (lv_at hl 0 rfl) ?_
        refine g_get (index := 11) (ci := 8) hx hb hts inlX10 hown hK hI hS.2.2.2.1 rfl 0 (by decide) m_fl_X10_11 (fun _ h9 => h9) rfl dX10_comb_22 ?_
        refine lv_iload_n hx hb dX10_comb_25 rfl (lv_at hl 1 rfl) ?_
        rcases btf (eqb (A 0 (ix s)) 0) with h_5 | h_5
        · have z_6 := fun lo hi => fit_0 (A := A) lo hi h_5
          have t_7 : tv nn (A 0 (ix s)) := (hS.tsh h_1)
          refine g_aald hx hb hK hI 1 hS.2.2.2.2.1 rfl (sh_in h_1) dX10_comb_26 ?_
          refine W.eq (g2 := F0 mI 27 ls [.null]) (by rw [show shf aa A (Int32.toNatClampNeg s) = adr aa (A 0 (ix s)) from shf_at h_1, adr_n h_5]; rfl) ?_
          refine g_callS (own := RX10) (index := 46) (n := 1) hx hb hml hown hts (c_X10_isNoHive_n l E b0 _) m_ml_X10_46 m_st_X10_isNoHive m_in_X10 m_co_X10_isNoHive (by decide +kernel) ⟨Nat.le_of_ble_eq_true rfl, Nat.le_of_ble_eq_true rfl⟩ ⟨by first | exact Nat.le_of_ble_eq_true rfl | (show _ ≤ 2; omega), by first | exact Nat.le_of_ble_eq_true rfl | (show _ ≤ 160; omega)⟩ rfl hl.1 rfl (Nat.le_of_ble_eq_true rfl) dX10_comb_27 hK hI (fun r G1 H1 L1 hp hI => ?_)
          obtain ⟨v, rfl, ev, hGe⟩ := hp
          subst ev
          rw [hGe] at hI
          refine W.eq (g2 := F0 mI 30 ls [.int 0]) rfl ?_
          refine lv_if_eq (tgt := 39) hx hb dX10_comb_30 (by decide) (fun _ => ?_) (fun c_8 => absurd c_8 (by decide))
          refine lv_iload_n hx hb dX10_comb_39 rfl (lv_at hl 2 rfl) ?_
          refine lv_if_lt (tgt := 47) hx hb dX10_comb_40 (by decide) (fun c_9 => ?_) (fun c_9 => ?_)
          · refine lv_aload_n hx hb dX10_comb_47 rfl (lv_at hl 0 rfl) ?_
            refine lv_iconst (v := 2) hx hb dX10_comb_48 (by decide) ?_
            refine g_callV (own := RX10) (index := 31) (n := 1) hx hb hml hown hts (c_X10_refuse l E b0 _ _ aa _ nn hS hn 2 (vp_in_iff.mpr (by decide))) hS.2.2.2.1 rfl rfl m_ml_X10_31 m_im_X10_refuse m_se_X10_X10_refuse_X10_refuse m_in_X10 m_co_X10_refuse (by decide +kernel) ⟨Nat.le_of_ble_eq_true rfl, Nat.le_of_ble_eq_true rfl⟩ ⟨by first | exact Nat.le_of_ble_eq_true rfl | (show _ ≤ 2; omega), by first | exact Nat.le_of_ble_eq_true rfl | (show _ ≤ 160; omega)⟩ rfl hl.1 rfl (Nat.le_of_ble_eq_true rfl) dX10_comb_49 hK hI (fun r G1 H1 L1 hp hI => ?_)
            obtain ⟨v, rfl, ev, hS⟩ := hp
            subst ev
            refine W.eq (g2 := F0 mI 52 ls [.int (-10 - 2)]) rfl ?_
            have e9 : sp_comb A s n k = ((-10 - 2), (rfs A 2)) := by
              simp only [sp_comb, rfi, rfj, wHv, wRw, wSl, h_1, c_3, c_4, h_5, z_6, c_9, eqb_00, eqb_10, eqb_20, eqb_30, eqb_50, eqb_11, eqb_21, reduceIte, Bool.false_eq_true, not_true_eq_false, not_false_eq_true, ite_self]
            exact g_iret hx hb hr hlocks hI ⟨_, rfl, by rw [e9], aa, nn, by omega, by rw [e9]; exact hS⟩ dX10_comb_52 (by omega) (by omega)
          · refine lv_iload_n hx hb dX10_comb_43 rfl (lv_at hl 3 rfl) ?_
            refine lv_if_ge (tgt := 53) hx hb dX10_comb_44 (by decide) (fun c_10 => ?_) (fun c_10 => ?_)
            · have c_10 := Int32.not_lt.mpr c_10
              refine lv_aload_n hx hb dX10_comb_53 rfl (lv_at hl 0 rfl) ?_
              refine g_get (index := 11) (ci := 8) hx hb hts inlX10 hown hK hI hS.2.2.2.1 rfl 0 (by decide) m_fl_X10_11 (fun _ h9 => h9) rfl dX10_comb_54 ?_
              refine lv_iload_n hx hb dX10_comb_57 rfl (lv_at hl 1 rfl) ?_
              refine g_aald hx hb hK hI 1 hS.2.2.2.2.1 rfl (sh_in h_1) dX10_comb_58 ?_
              refine W.eq (g2 := F0 mI 59 ls [.null]) (by rw [show shf aa A (Int32.toNatClampNeg s) = adr aa (A 0 (ix s)) from shf_at h_1, adr_n h_5]; rfl) ?_
              refine g_callS (own := RX10) (index := 54) (n := 1) hx hb hml hown hts (c_X10_asHive_n l E b0 _) m_ml_X10_54 m_st_X10_asHive m_in_X10 m_co_X10_asHive (by decide +kernel) ⟨Nat.le_of_ble_eq_true rfl, Nat.le_of_ble_eq_true rfl⟩ ⟨by first | exact Nat.le_of_ble_eq_true rfl | (show _ ≤ 2; omega), by first | exact Nat.le_of_ble_eq_true rfl | (show _ ≤ 160; omega)⟩ rfl hl.1 rfl (Nat.le_of_ble_eq_true rfl) dX10_comb_59 hK hI (fun r G1 H1 L1 hp hI => ?_)
              obtain ⟨v, rfl, ev, hGe⟩ := hp
              subst ev
              rw [hGe] at hI
              refine W.eq (g2 := F0 mI 62 ls [.null]) rfl ?_
              refine lv_astoreN (lv' := [(4, .null), (0, .ref (aa 0)), (1, .int s), (2, .int n), (3, .int k)]) hx hb dX10_comb_62 hl (by decide) rfl (fun ls hl => ?_)
              refine lv_aloadN hx hb dX10_comb_64 (lv_at hl 0 rfl) ?_
              refine lv_ifnonnullN hx hb dX10_comb_66 ?_
              refine lv_aload_n hx hb dX10_comb_69 rfl (lv_at hl 1 rfl) ?_
              refine lv_iconst (v := 1) hx hb dX10_comb_70 (by decide) ?_
              refine g_callV (own := RX10) (index := 31) (n := 1) hx hb hml hown hts (c_X10_refuse l E b0 _ _ aa _ nn hS hn 1 (vp_in_iff.mpr (by decide))) hS.2.2.2.1 rfl rfl m_ml_X10_31 m_im_X10_refuse m_se_X10_X10_refuse_X10_refuse m_in_X10 m_co_X10_refuse (by decide +kernel) ⟨Nat.le_of_ble_eq_true rfl, Nat.le_of_ble_eq_true rfl⟩ ⟨by first | exact Nat.le_of_ble_eq_true rfl | (show _ ≤ 2; omega), by first | exact Nat.le_of_ble_eq_true rfl | (show _ ≤ 160; omega)⟩ rfl hl.1 rfl (Nat.le_of_ble_eq_true rfl) dX10_comb_71 hK hI (fun r G1 H1 L1 hp hI => ?_)
              obtain ⟨v, rfl, ev, hS⟩ := hp
              subst ev
              refine W.eq (g2 := F0 mI 74 ls [.int (-10 - 1)]) rfl ?_
              have e9 : sp_comb A s n k = ((-10 - 1), (rfs A 1)) := by
                simp only [sp_comb, rfi, rfj, wHv, wRw, wSl, h_1, c_3, c_4, h_5, z_6, c_9, c_10, eqb_00, eqb_10, eqb_20, eqb_30, eqb_50, eqb_11, eqb_21, reduceIte, Bool.false_eq_true, not_true_eq_false, not_false_eq_true, ite_self]
              exact g_iret hx hb hr hlocks hI ⟨_, rfl, by rw [e9], aa, nn, by omega, by rw [e9]; exact hS⟩ dX10_comb_74 (by omega) (by omega)
            · have c_10 := Int32.not_le.mp c_10
              refine lv_aload_n hx hb dX10_comb_47 rfl (lv_at hl 0 rfl) ?_
              refine lv_iconst (v := 2) hx hb dX10_comb_48 (by decide) ?_
              refine g_callV (own := RX10) (index := 31) (n := 1) hx hb hml hown hts (c_X10_refuse l E b0 _ _ aa _ nn hS hn 2 (vp_in_iff.mpr (by decide))) hS.2.2.2.1 rfl rfl m_ml_X10_31 m_im_X10_refuse m_se_X10_X10_refuse_X10_refuse m_in_X10 m_co_X10_refuse (by decide +kernel) ⟨Nat.le_of_ble_eq_true rfl, Nat.le_of_ble_eq_true rfl⟩ ⟨by first | exact Nat.le_of_ble_eq_true rfl | (show _ ≤ 2; omega), by first | exact Nat.le_of_ble_eq_true rfl | (show _ ≤ 160; omega)⟩ rfl hl.1 rfl (Nat.le_of_ble_eq_true rfl) dX10_comb_49 hK hI (fun r G1 H1 L1 hp hI => ?_)
              obtain ⟨v, rfl, ev, hS⟩ := hp
              subst ev
              refine W.eq (g2 := F0 mI 52 ls [.int (-10 - 2)]) rfl ?_
              have e9 : sp_comb A s n k = ((-10 - 2), (rfs A 2)) := by
                simp only [sp_comb, rfi, rfj, wHv, wRw, wSl, h_1, c_3, c_4, h_5, z_6, c_9, c_10, eqb_00, eqb_10, eqb_20, eqb_30, eqb_50, eqb_11, eqb_21, reduceIte, Bool.false_eq_true, not_true_eq_false, not_false_eq_true, ite_self]
              exact g_iret hx hb hr hlocks hI ⟨_, rfl, by rw [e9], aa, nn, by omega, by rw [e9]; exact hS⟩ dX10_comb_52 (by omega) (by omega)
        · have _ := 0
          have t_11 : tv nn (A 0 (ix s)) := (hS.tsh h_1)
          refine g_aald hx hb hK hI 1 hS.2.2.2.2.1 rfl (sh_in h_1) dX10_comb_26 ?_
          refine W.eq (g2 := F0 mI 27 ls [.ref (aa (4 * ix (A 0 (ix s))))]) (by rw [show shf aa A (Int32.toNatClampNeg s) = adr aa (A 0 (ix s)) from shf_at h_1, adr_s h_5]; rfl) ?_
          rcases btf (fit A (A 0 (ix s)) 6 7) with h_12 | h_12
          · have _ := 0
            refine g_callS (own := RX10) (index := 46) (n := 1) hx hb hml hown hts (c_X10_isNoHive_y l E b0 _ (aa (4 * ix (A 0 (ix s)))) _ _ (hS.at hn t_11 h_5) (cix_in _) (hS.gs hn t_11 h_5 5 (by decide) h_12)) m_ml_X10_46 m_st_X10_isNoHive m_in_X10 m_co_X10_isNoHive (by decide +kernel) ⟨Nat.le_of_ble_eq_true rfl, Nat.le_of_ble_eq_true rfl⟩ ⟨by first | exact Nat.le_of_ble_eq_true rfl | (show _ ≤ 2; omega), by first | exact Nat.le_of_ble_eq_true rfl | (show _ ≤ 160; omega)⟩ rfl hl.1 rfl (Nat.le_of_ble_eq_true rfl) dX10_comb_27 hK hI (fun r G1 H1 L1 hp hI => ?_)
            obtain ⟨v, rfl, ev, hGe⟩ := hp
            subst ev
            rw [hGe] at hI
            refine W.eq (g2 := F0 mI 30 ls [.int 0]) rfl ?_
            refine lv_if_eq (tgt := 39) hx hb dX10_comb_30 (by decide) (fun _ => ?_) (fun c_13 => absurd c_13 (by decide))
            refine lv_iload_n hx hb dX10_comb_39 rfl (lv_at hl 2 rfl) ?_
            refine lv_if_lt (tgt := 47) hx hb dX10_comb_40 (by decide) (fun c_14 => ?_) (fun c_14 => ?_)
            · refine lv_aload_n hx hb dX10_comb_47 rfl (lv_at hl 0 rfl) ?_
              refine lv_iconst (v := 2) hx hb dX10_comb_48 (by decide) ?_
              refine g_callV (own := RX10) (index := 31) (n := 1) hx hb hml hown hts (c_X10_refuse l E b0 _ _ aa _ nn hS hn 2 (vp_in_iff.mpr (by decide))) hS.2.2.2.1 rfl rfl m_ml_X10_31 m_im_X10_refuse m_se_X10_X10_refuse_X10_refuse m_in_X10 m_co_X10_refuse (by decide +kernel) ⟨Nat.le_of_ble_eq_true rfl, Nat.le_of_ble_eq_true rfl⟩ ⟨by first | exact Nat.le_of_ble_eq_true rfl | (show _ ≤ 2; omega), by first | exact Nat.le_of_ble_eq_true rfl | (show _ ≤ 160; omega)⟩ rfl hl.1 rfl (Nat.le_of_ble_eq_true rfl) dX10_comb_49 hK hI (fun r G1 H1 L1 hp hI => ?_)
              obtain ⟨v, rfl, ev, hS⟩ := hp
              subst ev
              refine W.eq (g2 := F0 mI 52 ls [.int (-10 - 2)]) rfl ?_
              have e9 : sp_comb A s n k = ((-10 - 2), (rfs A 2)) := by
                simp only [sp_comb, rfi, rfj, wHv, wRw, wSl, h_1, c_3, c_4, h_5, h_12, c_14, eqb_00, eqb_10, eqb_20, eqb_30, eqb_50, eqb_11, eqb_21, reduceIte, Bool.false_eq_true, not_true_eq_false, not_false_eq_true, ite_self]
              exact g_iret hx hb hr hlocks hI ⟨_, rfl, by rw [e9], aa, nn, by omega, by rw [e9]; exact hS⟩ dX10_comb_52 (by omega) (by omega)
            · refine lv_iload_n hx hb dX10_comb_43 rfl (lv_at hl 3 rfl) ?_
              refine lv_if_ge (tgt := 53) hx hb dX10_comb_44 (by decide) (fun c_15 => ?_) (fun c_15 => ?_)
              · have c_15 := Int32.not_lt.mpr c_15
                refine lv_aload_n hx hb dX10_comb_53 rfl (lv_at hl 0 rfl) ?_
                refine g_get (index := 11) (ci := 8) hx hb hts inlX10 hown hK hI hS.2.2.2.1 rfl 0 (by decide) m_fl_X10_11 (fun _ h9 => h9) rfl dX10_comb_54 ?_
                refine lv_iload_n hx hb dX10_comb_57 rfl (lv_at hl 1 rfl) ?_
                refine g_aald hx hb hK hI 1 hS.2.2.2.2.1 rfl (sh_in h_1) dX10_comb_58 ?_
                refine W.eq (g2 := F0 mI 59 ls [.ref (aa (4 * ix (A 0 (ix s))))]) (by rw [show shf aa A (Int32.toNatClampNeg s) = adr aa (A 0 (ix s)) from shf_at h_1, adr_s h_5]; rfl) ?_
                refine g_callS (own := RX10) (index := 54) (n := 1) hx hb hml hown hts (c_X10_asHive_y l E b0 _ (aa (4 * ix (A 0 (ix s)))) _ _ (hS.at hn t_11 h_5) (cix_in _) (hS.gs hn t_11 h_5 5 (by decide) h_12)) m_ml_X10_54 m_st_X10_asHive m_in_X10 m_co_X10_asHive (by decide +kernel) ⟨Nat.le_of_ble_eq_true rfl, Nat.le_of_ble_eq_true rfl⟩ ⟨by first | exact Nat.le_of_ble_eq_true rfl | (show _ ≤ 2; omega), by first | exact Nat.le_of_ble_eq_true rfl | (show _ ≤ 160; omega)⟩ rfl hl.1 rfl (Nat.le_of_ble_eq_true rfl) dX10_comb_59 hK hI (fun r G1 H1 L1 hp hI => ?_)
                obtain ⟨v, rfl, ev, hGe⟩ := hp
                subst ev
                rw [hGe] at hI
                refine W.eq (g2 := F0 mI 62 ls [.ref (aa (4 * ix (A 0 (ix s))))]) rfl ?_
                refine lv_astore (lv' := [(4, .ref (aa (4 * ix (A 0 (ix s))))), (0, .ref (aa 0)), (1, .int s), (2, .int n), (3, .int k)]) hx hb dX10_comb_62 hl (by decide) rfl (fun ls hl => ?_)
                refine lv_aload hx hb dX10_comb_64 (lv_at hl 0 rfl) ?_
                refine lv_ifnonnull (tgt := 75) hx hb dX10_comb_66 (by decide) ?_
                refine lv_aload hx hb dX10_comb_75 (lv_at hl 0 rfl) ?_
                obtain ⟨ja, hja, rfl⟩ := n30 (N := 12) c_14 c_3 (by decide)
                obtain ⟨jb, hjb, rfl⟩ := n30 (N := 12) c_15 c_4 (by decide)
                have hm : ja * jb ≤ 12 * 12 := Nat.mul_le_mul hja hjb
                refine g_new (index := 69) (ci := 2) (fs := [.int 0, .int 0, .null]) hx hb hts inlX2 tyX2 tyX2_ok hown m_cl_X10_69 m_it_X2 m_in_X2 hK hI rfl (fun j hj => by rcases (show j = 0 ∨ j = 1 ∨ j = 2 by omega) with rfl | rfl | rfl <;> rfl) (Nat.le_of_ble_eq_true rfl) (Nat.le_of_ble_eq_true rfl) dX10_comb_77 (fun q1 H1 hq1 hI => ?_)
                refine lv_dup hx hb dX10_comb_80 rfl ?_
                refine lv_iload_n hx hb dX10_comb_81 rfl (lv_at hl 3 rfl) ?_
                refine lv_iload_n hx hb dX10_comb_82 rfl (lv_at hl 4 rfl) ?_
                refine g_callI (own := RX10) (index := 71) (n := 2) hx hb hml hown hts (c_X2_init l E b0 _ q1 ja jb hm (gu_s _ _ _)) m_ml_X10_71 m_im_X2_init m_in_X2 m_co_X2_init rfl (by decide +kernel) ⟨Nat.le_of_ble_eq_true rfl, Nat.le_of_ble_eq_true rfl⟩ ⟨by first | exact Nat.le_of_ble_eq_true rfl | (show _ ≤ 2; omega), by first | exact Nat.le_of_ble_eq_true rfl | (show _ ≤ 160; omega)⟩ rfl hl.1 rfl (Nat.le_of_ble_eq_true rfl) dX10_comb_83 hK hI (fun r G1 H1 L1 hp hI => ?_)
                obtain ⟨rfl, q2, h21, hq2, hoff, hg1, hg2⟩ := hp
                rw [gu_n h21] at hq2
                refine W.eq (g2 := F0 mI 86 ls [.ref q1, .ref (aa (4 * ix (A 0 (ix s))))]) rfl ?_
                have n1 : (aa (4 * ix (A 0 (ix s)))) ≠ q1 := (ne_o hq1 (hS.hv hn t_11 h_5 h_12)).symm
                have n2 : (aa (4 * ix (A 0 (ix s)))) ≠ q2 := (ne_o hq2 (hS.hv hn t_11 h_5 h_12)).symm
                have hGh : G1 (aa (4 * ix (A 0 (ix s)))) = some (.inr (5, hvf aa A (ix (A 0 (ix s))))) := by rw [hoff _ n1 n2, gu_n n1]; exact (hS.hv hn t_11 h_5 h_12)
                refine g_put (index := 74) (ci := 5) hx hb hts inlX5 tyX5 tyX5_ok nmX5 hown hK hI hGh rfl 2 (by decide) m_fl_X10_74 (fun _ h9 => h9) rfl rfl rfl (Nat.le_of_ble_eq_true rfl) dX10_comb_86 (fun H1 L1 hI => ?_)
                have hS := SW.pcb (G1 := gu G1 (aa (4 * ix (A 0 (ix s)))) (.inr (5, (hvf aa A (ix (A 0 (ix s)))).set 2 (.ref q1)))) hS (ix (A 0 (ix s))) ja jb q1 q2 (t_11.pos hn h_5) (t_11.ixle hn).1 hja hjb hq1 hq2 h21.symm (fun p y1 y2 y3 => by rw [gu_n y3, hoff _ y1 y2, gu_n y1]) (by rw [gu_n n1.symm]; exact hg1) (by rw [gu_n n2.symm]; exact hg2) (by rw [gu_s]; exact congrArg some (thc_5y hja rfl (by rw [← fit_so h_5]; exact h_12) (hS.so hn t_11 h_5)))
                refine W.eq (g2 := F0 mI 89 ls []) rfl ?_
                refine lv_iload_n hx hb dX10_comb_89 rfl (lv_at hl 3 rfl) ?_
                have e9 : sp_comb A s (nI ja) (nI jb) = ((nI ja), (z2 (u2 (u2 A 7 (ix (A 0 (ix s))) (nI ja)) 8 (ix (A 0 (ix s))) (nI jb)) 9 (144 * ix (A 0 (ix s))) 144)) := by
                  simp only [sp_comb, rfi, rfj, wHv, wRw, wSl, h_1, c_3, c_4, h_5, h_12, c_14, c_15, eqb_00, eqb_10, eqb_20, eqb_30, eqb_50, eqb_11, eqb_21, reduceIte, Bool.false_eq_true, not_true_eq_false, not_false_eq_true, ite_self]
                exact g_iret hx hb hr hlocks hI ⟨_, rfl, by rw [e9], _, nn, by omega, by rw [e9]; exact hS⟩ dX10_comb_90 (by omega) (by omega)
              · have c_15 := Int32.not_le.mp c_15
                refine lv_aload_n hx hb dX10_comb_47 rfl (lv_at hl 0 rfl) ?_
                refine lv_iconst (v := 2) hx hb dX10_comb_48 (by decide) ?_
                refine g_callV (own := RX10) (index := 31) (n := 1) hx hb hml hown hts (c_X10_refuse l E b0 _ _ aa _ nn hS hn 2 (vp_in_iff.mpr (by decide))) hS.2.2.2.1 rfl rfl m_ml_X10_31 m_im_X10_refuse m_se_X10_X10_refuse_X10_refuse m_in_X10 m_co_X10_refuse (by decide +kernel) ⟨Nat.le_of_ble_eq_true rfl, Nat.le_of_ble_eq_true rfl⟩ ⟨by first | exact Nat.le_of_ble_eq_true rfl | (show _ ≤ 2; omega), by first | exact Nat.le_of_ble_eq_true rfl | (show _ ≤ 160; omega)⟩ rfl hl.1 rfl (Nat.le_of_ble_eq_true rfl) dX10_comb_49 hK hI (fun r G1 H1 L1 hp hI => ?_)
                obtain ⟨v, rfl, ev, hS⟩ := hp
                subst ev
                refine W.eq (g2 := F0 mI 52 ls [.int (-10 - 2)]) rfl ?_
                have e9 : sp_comb A s n k = ((-10 - 2), (rfs A 2)) := by
                  simp only [sp_comb, rfi, rfj, wHv, wRw, wSl, h_1, c_3, c_4, h_5, h_12, c_14, c_15, eqb_00, eqb_10, eqb_20, eqb_30, eqb_50, eqb_11, eqb_21, reduceIte, Bool.false_eq_true, not_true_eq_false, not_false_eq_true, ite_self]
                exact g_iret hx hb hr hlocks hI ⟨_, rfl, by rw [e9], aa, nn, by omega, by rw [e9]; exact hS⟩ dX10_comb_52 (by omega) (by omega)
          · have _ := 0
            refine g_callS (own := RX10) (index := 46) (n := 1) hx hb hml hown hts (c_X10_isNoHive_f l E b0 _ (aa (4 * ix (A 0 (ix s)))) _ _ (hS.at hn t_11 h_5) (cix_in _) (hS.gs hn t_11 h_5 5 (by decide) h_12)) m_ml_X10_46 m_st_X10_isNoHive m_in_X10 m_co_X10_isNoHive (by decide +kernel) ⟨Nat.le_of_ble_eq_true rfl, Nat.le_of_ble_eq_true rfl⟩ ⟨by first | exact Nat.le_of_ble_eq_true rfl | (show _ ≤ 2; omega), by first | exact Nat.le_of_ble_eq_true rfl | (show _ ≤ 160; omega)⟩ rfl hl.1 rfl (Nat.le_of_ble_eq_true rfl) dX10_comb_27 hK hI (fun r G1 H1 L1 hp hI => ?_)
            obtain ⟨v, rfl, ev, hGe⟩ := hp
            subst ev
            rw [hGe] at hI
            refine W.eq (g2 := F0 mI 30 ls [.int 1]) rfl ?_
            refine lv_if_eq (tgt := 39) hx hb dX10_comb_30 (by decide) (fun c_16 => absurd c_16 (by decide)) (fun _ => ?_)
            refine lv_aload_n hx hb dX10_comb_33 rfl (lv_at hl 0 rfl) ?_
            refine lv_iconst (v := 5) hx hb dX10_comb_34 (by decide) ?_
            refine g_callV (own := RX10) (index := 31) (n := 1) hx hb hml hown hts (c_X10_refuse l E b0 _ _ aa _ nn hS hn 5 (vp_in_iff.mpr (by decide))) hS.2.2.2.1 rfl rfl m_ml_X10_31 m_im_X10_refuse m_se_X10_X10_refuse_X10_refuse m_in_X10 m_co_X10_refuse (by decide +kernel) ⟨Nat.le_of_ble_eq_true rfl, Nat.le_of_ble_eq_true rfl⟩ ⟨by first | exact Nat.le_of_ble_eq_true rfl | (show _ ≤ 2; omega), by first | exact Nat.le_of_ble_eq_true rfl | (show _ ≤ 160; omega)⟩ rfl hl.1 rfl (Nat.le_of_ble_eq_true rfl) dX10_comb_35 hK hI (fun r G1 H1 L1 hp hI => ?_)
            obtain ⟨v, rfl, ev, hS⟩ := hp
            subst ev
            refine W.eq (g2 := F0 mI 38 ls [.int (-10 - 5)]) rfl ?_
            have e9 : sp_comb A s n k = ((-10 - 5), (rfs A 5)) := by
              simp only [sp_comb, rfi, rfj, wHv, wRw, wSl, h_1, c_3, c_4, h_5, h_12, eqb_00, eqb_10, eqb_20, eqb_30, eqb_50, eqb_11, eqb_21, reduceIte, Bool.false_eq_true, not_true_eq_false, not_false_eq_true, ite_self]
            exact g_iret hx hb hr hlocks hI ⟨_, rfl, by rw [e9], aa, nn, by omega, by rw [e9]; exact hS⟩ dX10_comb_38 (by omega) (by omega)
      · have c_4 := Int32.not_le.mp c_4
        refine lv_iconst (v := -1) hx hb dX10_comb_19 (by decide) ?_
        have e9 : sp_comb A s n k = ((-1), A) := by
          simp only [sp_comb, rfi, rfj, wHv, wRw, wSl, h_1, c_3, c_4, eqb_00, eqb_10, eqb_20, eqb_30, eqb_50, eqb_11, eqb_21, reduceIte, Bool.false_eq_true, not_true_eq_false, not_false_eq_true, ite_self]
        exact g_iret hx hb hr hlocks hI ⟨_, rfl, by rw [e9], aa, nn, by omega, by rw [e9]; exact hS⟩ dX10_comb_20 (by omega) (by omega)
  · rw [hGe] at hI
    refine W.eq (g2 := F0 mI 4 ls [.int 0]) rfl ?_
    refine lv_if_eq (tgt := 19) hx hb dX10_comb_4 (by decide) (fun _ => ?_) (fun c_17 => absurd c_17 (by decide))
    refine lv_iconst (v := -1) hx hb dX10_comb_19 (by decide) ?_
    have e9 : sp_comb A s n k = ((-1), A) := by
      simp only [sp_comb, rfi, rfj, wHv, wRw, wSl, h_1, eqb_00, eqb_10, eqb_20, eqb_30, eqb_50, eqb_11, eqb_21, reduceIte, Bool.false_eq_true, not_true_eq_false, not_false_eq_true, ite_self]
    exact g_iret hx hb hr hlocks hI ⟨_, rfl, by rw [e9], aa, nn, by omega, by rw [e9]; exact hS⟩ dX10_comb_20 (by omega) (by omega)
set_option maxHeartbeats 4000000 in
set_option maxRecDepth 100000 in
theorem c_X10_newThing_0 (l : Launch) (E : gE) (b0 : Nat) (G : gG) (v : Int32) : gM l yX10_newThing cX10_newThing 2 (some (.object "HiveYard$Thing")) 4 1 3 E b0 G [.int 0, .int v] (pQ (fun v9 G1 => ∃ q, v9 = some q ∧ G q = none ∧ G1 = gu G q (.inr (4, [.int 0, .int v])))) := by
  refine gM.of (by decide +kernel) (Nat.le_of_ble_eq_true rfl) ?_
  intro pP eP sP mI bP meth cP ls hx hb hr hml hown hlocks hnm hts hK hI hl
  have hl : lv_has ls 2 [(0, .int 0), (1, .int v)] := hl
  have hown : sP.vm.findClass RX10 = some mI.cls := hown
  refine lv_iload_n hx hb dX10_newThing_0 rfl (lv_at hl 0 rfl) ?_
  refine lv_tableIn (off := 35) (tgt := 36) hx hb dX10_newThing_1 (by decide) (by decide) (by decide) (by decide) ?_
  refine g_new (index := 37) (ci := 4) (fs := [.int 0, .int 0]) hx hb hts inlX4 tyX4 tyX4_ok hown m_cl_X10_37 m_it_X4 m_in_X4 hK hI rfl (fun j hj => by rcases (show j = 0 ∨ j = 1 by omega) with rfl | rfl <;> rfl) (Nat.le_of_ble_eq_true rfl) (Nat.le_of_ble_eq_true rfl) dX10_newThing_36 (fun q H1 hq hI => ?_)
  refine lv_dup hx hb dX10_newThing_39 rfl ?_
  refine lv_iconst (v := 0) hx hb dX10_newThing_40 (by decide) ?_
  refine lv_iload_n hx hb dX10_newThing_41 rfl (lv_at hl 1 rfl) ?_
  refine g_callI (own := RX10) (index := 169) (n := 2) hx hb hml hown hts (c_X4_init_4 l E b0 _ q 0 v (gu_s _ _ _)) m_ml_X10_169 m_im_X4_init m_in_X4 m_co_X4_init rfl (by decide +kernel) ⟨Nat.le_of_ble_eq_true rfl, Nat.le_of_ble_eq_true rfl⟩ ⟨by first | exact Nat.le_of_ble_eq_true rfl | (show _ ≤ 1; omega), by first | exact Nat.le_of_ble_eq_true rfl | (show _ ≤ 3; omega)⟩ rfl hl.1 rfl (Nat.le_of_ble_eq_true rfl) dX10_newThing_42 hK hI (fun r G1 H1 L1 hp hI => ?_)
  obtain ⟨rfl, rfl⟩ := hp
  refine W.eq (g2 := F0 mI 45 ls [.ref q]) rfl ?_
  exact g_aret (o := some q) hx hb hr hlocks hI ⟨_, rfl, q, rfl, hq, by first | rfl | (simp only [gu_uu]; try rfl)⟩ dX10_newThing_45 (by omega) (by omega)
theorem SW.pns0 {E : gE} {x : Nat} {aa : Nat → Nat} {A : gA} {n : Nat} {G : gG} (hS : SW E x aa A n G) (hn : n < 600) (v : Int32) {q : Nat} (hq : G q = none) : SW E x (va_up aa (4 * (n + 1)) q) (nthg A 0 v) (n + 1) (gu G q (.inr (4, [.int 0, .int v]))) := by
  have i1 : ix (A 1 0 + 1) = n + 1 := by rw [hS.1.1, nI_1, ix_nI (by omega)]
  have e0 : nI 0 = 0 := by decide
  have h := hS.pnt hn (k0 := 0) (by decide) v hq (y := .inr (4, [.int 0, .int v])) (by
    rw [thc_0 (by rw [show nthg A (nI 0) v 2 (n + 1) = nI 0 by unfold nthg; simp [u2, i1]]; decide)]
    unfold nthg
    simp [u2, i1])
  rw [e0] at h
  exact h
set_option maxHeartbeats 4000000 in
set_option maxRecDepth 100000 in
theorem c_X10_newThing_1 (l : Launch) (E : gE) (b0 : Nat) (G : gG) (v : Int32) : gM l yX10_newThing cX10_newThing 2 (some (.object "HiveYard$Thing")) 4 1 3 E b0 G [.int 1, .int v] (pQ (fun v9 G1 => ∃ q, v9 = some q ∧ G q = none ∧ G1 = gu G q (.inr (1, [.int v, .int 1, .int 0])))) := by
  refine gM.of (by decide +kernel) (Nat.le_of_ble_eq_true rfl) ?_
  intro pP eP sP mI bP meth cP ls hx hb hr hml hown hlocks hnm hts hK hI hl
  have hl : lv_has ls 2 [(0, .int 1), (1, .int v)] := hl
  have hown : sP.vm.findClass RX10 = some mI.cls := hown
  refine lv_iload_n hx hb dX10_newThing_0 rfl (lv_at hl 0 rfl) ?_
  refine lv_tableIn (off := 45) (tgt := 46) hx hb dX10_newThing_1 (by decide) (by decide) (by decide) (by decide) ?_
  refine g_new (index := 112) (ci := 1) (fs := [.int 0, .int 0, .int 0]) hx hb hts inlX1 tyX1 tyX1_ok hown m_cl_X10_112 m_it_X1 m_in_X1 hK hI rfl (fun j hj => by rcases (show j = 0 ∨ j = 1 ∨ j = 2 by omega) with rfl | rfl | rfl <;> rfl) (Nat.le_of_ble_eq_true rfl) (Nat.le_of_ble_eq_true rfl) dX10_newThing_46 (fun q H1 hq hI => ?_)
  refine lv_dup hx hb dX10_newThing_49 rfl ?_
  refine lv_iload_n hx hb dX10_newThing_50 rfl (lv_at hl 1 rfl) ?_
  refine g_callI (own := RX10) (index := 170) (n := 1) hx hb hml hown hts (c_X1_init_1 l E b0 _ q v (gu_s _ _ _)) m_ml_X10_170 m_im_X1_init m_in_X1 m_co_X1_init rfl (by decide +kernel) ⟨Nat.le_of_ble_eq_true rfl, Nat.le_of_ble_eq_true rfl⟩ ⟨by first | exact Nat.le_of_ble_eq_true rfl | (show _ ≤ 1; omega), by first | exact Nat.le_of_ble_eq_true rfl | (show _ ≤ 3; omega)⟩ rfl hl.1 rfl (Nat.le_of_ble_eq_true rfl) dX10_newThing_51 hK hI (fun r G1 H1 L1 hp hI => ?_)
  obtain ⟨rfl, rfl⟩ := hp
  refine W.eq (g2 := F0 mI 54 ls [.ref q]) rfl ?_
  exact g_aret (o := some q) hx hb hr hlocks hI ⟨_, rfl, q, rfl, hq, by first | rfl | (simp only [gu_uu]; try rfl)⟩ dX10_newThing_54 (by omega) (by omega)
theorem SW.pns1 {E : gE} {x : Nat} {aa : Nat → Nat} {A : gA} {n : Nat} {G : gG} (hS : SW E x aa A n G) (hn : n < 600) (v : Int32) {q : Nat} (hq : G q = none) : SW E x (va_up aa (4 * (n + 1)) q) (nthg A 1 v) (n + 1) (gu G q (.inr (1, [.int v, .int 1, .int 0]))) := by
  have i1 : ix (A 1 0 + 1) = n + 1 := by rw [hS.1.1, nI_1, ix_nI (by omega)]
  have e0 : nI 1 = 1 := by decide
  have h := hS.pnt hn (k0 := 1) (by decide) v hq (y := .inr (1, [.int v, .int 1, .int 0])) (by
    rw [thc_1 (by rw [show nthg A (nI 1) v 2 (n + 1) = nI 1 by unfold nthg; simp [u2, i1]]; decide)]
    unfold nthg
    simp [u2, i1])
  rw [e0] at h
  exact h
set_option maxHeartbeats 4000000 in
set_option maxRecDepth 100000 in
theorem c_X10_newThing_2 (l : Launch) (E : gE) (b0 : Nat) (G : gG) (v : Int32) : gM l yX10_newThing cX10_newThing 2 (some (.object "HiveYard$Thing")) 4 1 3 E b0 G [.int 2, .int v] (pQ (fun v9 G1 => ∃ q, v9 = some q ∧ G q = none ∧ G1 = gu G q (.inr (6, [.int 2, .int v, .int 0])))) := by
  refine gM.of (by decide +kernel) (Nat.le_of_ble_eq_true rfl) ?_
  intro pP eP sP mI bP meth cP ls hx hb hr hml hown hlocks hnm hts hK hI hl
  have hl : lv_has ls 2 [(0, .int 2), (1, .int v)] := hl
  have hown : sP.vm.findClass RX10 = some mI.cls := hown
  refine lv_iload_n hx hb dX10_newThing_0 rfl (lv_at hl 0 rfl) ?_
  refine lv_tableIn (off := 54) (tgt := 55) hx hb dX10_newThing_1 (by decide) (by decide) (by decide) (by decide) ?_
  refine g_new (index := 117) (ci := 6) (fs := [.int 0, .int 0, .int 0]) hx hb hts inlX7 tyX7 tyX7_ok hown m_cl_X10_117 m_it_X7 m_in_X7 hK hI rfl (fun j hj => by rcases (show j = 0 ∨ j = 1 ∨ j = 2 by omega) with rfl | rfl | rfl <;> rfl) (Nat.le_of_ble_eq_true rfl) (Nat.le_of_ble_eq_true rfl) dX10_newThing_55 (fun q H1 hq hI => ?_)
  refine lv_dup hx hb dX10_newThing_58 rfl ?_
  refine lv_iload_n hx hb dX10_newThing_59 rfl (lv_at hl 1 rfl) ?_
  refine g_callI (own := RX10) (index := 173) (n := 1) hx hb hml hown hts (c_X7_init_6 l E b0 _ q v (gu_s _ _ _)) m_ml_X10_173 m_im_X7_init m_in_X7 m_co_X7_init rfl (by decide +kernel) ⟨Nat.le_of_ble_eq_true rfl, Nat.le_of_ble_eq_true rfl⟩ ⟨by first | exact Nat.le_of_ble_eq_true rfl | (show _ ≤ 1; omega), by first | exact Nat.le_of_ble_eq_true rfl | (show _ ≤ 3; omega)⟩ rfl hl.1 rfl (Nat.le_of_ble_eq_true rfl) dX10_newThing_60 hK hI (fun r G1 H1 L1 hp hI => ?_)
  obtain ⟨rfl, rfl⟩ := hp
  refine W.eq (g2 := F0 mI 63 ls [.ref q]) rfl ?_
  exact g_aret (o := some q) hx hb hr hlocks hI ⟨_, rfl, q, rfl, hq, by first | rfl | (simp only [gu_uu]; try rfl)⟩ dX10_newThing_63 (by omega) (by omega)
theorem SW.pns2 {E : gE} {x : Nat} {aa : Nat → Nat} {A : gA} {n : Nat} {G : gG} (hS : SW E x aa A n G) (hn : n < 600) (v : Int32) {q : Nat} (hq : G q = none) : SW E x (va_up aa (4 * (n + 1)) q) (nthg A 2 v) (n + 1) (gu G q (.inr (6, [.int 2, .int v, .int 0]))) := by
  have i1 : ix (A 1 0 + 1) = n + 1 := by rw [hS.1.1, nI_1, ix_nI (by omega)]
  have e0 : nI 2 = 2 := by decide
  have h := hS.pnt hn (k0 := 2) (by decide) v hq (y := .inr (6, [.int 2, .int v, .int 0])) (by
    rw [thc_2 (by rw [show nthg A (nI 2) v 2 (n + 1) = nI 2 by unfold nthg; simp [u2, i1]]; decide)]
    unfold nthg
    simp [u2, i1])
  rw [e0] at h
  exact h
set_option maxHeartbeats 4000000 in
set_option maxRecDepth 100000 in
theorem c_X10_newThing_3 (l : Launch) (E : gE) (b0 : Nat) (G : gG) (v : Int32) : gM l yX10_newThing cX10_newThing 2 (some (.object "HiveYard$Thing")) 4 1 3 E b0 G [.int 3, .int v] (pQ (fun v9 G1 => ∃ q, v9 = some q ∧ G q = none ∧ G1 = gu G q (.inr (7, [.int v, .int 3])))) := by
  refine gM.of (by decide +kernel) (Nat.le_of_ble_eq_true rfl) ?_
  intro pP eP sP mI bP meth cP ls hx hb hr hml hown hlocks hnm hts hK hI hl
  have hl : lv_has ls 2 [(0, .int 3), (1, .int v)] := hl
  have hown : sP.vm.findClass RX10 = some mI.cls := hown
  refine lv_iload_n hx hb dX10_newThing_0 rfl (lv_at hl 0 rfl) ?_
  refine lv_tableIn (off := 63) (tgt := 64) hx hb dX10_newThing_1 (by decide) (by decide) (by decide) (by decide) ?_
  refine g_new (index := 174) (ci := 7) (fs := [.int 0, .int 0]) hx hb hts inlX8 tyX8 tyX8_ok hown m_cl_X10_174 m_it_X8 m_in_X8 hK hI rfl (fun j hj => by rcases (show j = 0 ∨ j = 1 by omega) with rfl | rfl <;> rfl) (Nat.le_of_ble_eq_true rfl) (Nat.le_of_ble_eq_true rfl) dX10_newThing_64 (fun q H1 hq hI => ?_)
  refine lv_dup hx hb dX10_newThing_67 rfl ?_
  refine lv_iload_n hx hb dX10_newThing_68 rfl (lv_at hl 1 rfl) ?_
  refine g_callI (own := RX10) (index := 176) (n := 1) hx hb hml hown hts (c_X8_init_7 l E b0 _ q v (gu_s _ _ _)) m_ml_X10_176 m_im_X8_init m_in_X8 m_co_X8_init rfl (by decide +kernel) ⟨Nat.le_of_ble_eq_true rfl, Nat.le_of_ble_eq_true rfl⟩ ⟨by first | exact Nat.le_of_ble_eq_true rfl | (show _ ≤ 1; omega), by first | exact Nat.le_of_ble_eq_true rfl | (show _ ≤ 3; omega)⟩ rfl hl.1 rfl (Nat.le_of_ble_eq_true rfl) dX10_newThing_69 hK hI (fun r G1 H1 L1 hp hI => ?_)
  obtain ⟨rfl, rfl⟩ := hp
  refine W.eq (g2 := F0 mI 72 ls [.ref q]) rfl ?_
  exact g_aret (o := some q) hx hb hr hlocks hI ⟨_, rfl, q, rfl, hq, by first | rfl | (simp only [gu_uu]; try rfl)⟩ dX10_newThing_72 (by omega) (by omega)
theorem SW.pns3 {E : gE} {x : Nat} {aa : Nat → Nat} {A : gA} {n : Nat} {G : gG} (hS : SW E x aa A n G) (hn : n < 600) (v : Int32) {q : Nat} (hq : G q = none) : SW E x (va_up aa (4 * (n + 1)) q) (nthg A 3 v) (n + 1) (gu G q (.inr (7, [.int v, .int 3]))) := by
  have i1 : ix (A 1 0 + 1) = n + 1 := by rw [hS.1.1, nI_1, ix_nI (by omega)]
  have e0 : nI 3 = 3 := by decide
  have h := hS.pnt hn (k0 := 3) (by decide) v hq (y := .inr (7, [.int v, .int 3])) (by
    rw [thc_3 (by rw [show nthg A (nI 3) v 2 (n + 1) = nI 3 by unfold nthg; simp [u2, i1]]; decide)]
    unfold nthg
    simp [u2, i1])
  rw [e0] at h
  exact h
set_option maxHeartbeats 4000000 in
set_option maxRecDepth 100000 in
theorem c_X10_newThing_4 (l : Launch) (E : gE) (b0 : Nat) (G : gG) (v : Int32) : gM l yX10_newThing cX10_newThing 2 (some (.object "HiveYard$Thing")) 4 1 3 E b0 G [.int 4, .int v] (pQ (fun v9 G1 => ∃ q, v9 = some q ∧ G q = none ∧ G1 = gu G q (.inr (3, [.int v, .int 4])))) := by
  refine gM.of (by decide +kernel) (Nat.le_of_ble_eq_true rfl) ?_
  intro pP eP sP mI bP meth cP ls hx hb hr hml hown hlocks hnm hts hK hI hl
  have hl : lv_has ls 2 [(0, .int 4), (1, .int v)] := hl
  have hown : sP.vm.findClass RX10 = some mI.cls := hown
  refine lv_iload_n hx hb dX10_newThing_0 rfl (lv_at hl 0 rfl) ?_
  refine lv_tableIn (off := 72) (tgt := 73) hx hb dX10_newThing_1 (by decide) (by decide) (by decide) (by decide) ?_
  refine g_new (index := 177) (ci := 3) (fs := [.int 0, .int 0]) hx hb hts inlX3 tyX3 tyX3_ok hown m_cl_X10_177 m_it_X3 m_in_X3 hK hI rfl (fun j hj => by rcases (show j = 0 ∨ j = 1 by omega) with rfl | rfl <;> rfl) (Nat.le_of_ble_eq_true rfl) (Nat.le_of_ble_eq_true rfl) dX10_newThing_73 (fun q H1 hq hI => ?_)
  refine lv_dup hx hb dX10_newThing_76 rfl ?_
  refine lv_iload_n hx hb dX10_newThing_77 rfl (lv_at hl 1 rfl) ?_
  refine g_callI (own := RX10) (index := 179) (n := 1) hx hb hml hown hts (c_X3_init_3 l E b0 _ q v (gu_s _ _ _)) m_ml_X10_179 m_im_X3_init m_in_X3 m_co_X3_init rfl (by decide +kernel) ⟨Nat.le_of_ble_eq_true rfl, Nat.le_of_ble_eq_true rfl⟩ ⟨by first | exact Nat.le_of_ble_eq_true rfl | (show _ ≤ 1; omega), by first | exact Nat.le_of_ble_eq_true rfl | (show _ ≤ 3; omega)⟩ rfl hl.1 rfl (Nat.le_of_ble_eq_true rfl) dX10_newThing_78 hK hI (fun r G1 H1 L1 hp hI => ?_)
  obtain ⟨rfl, rfl⟩ := hp
  refine W.eq (g2 := F0 mI 81 ls [.ref q]) rfl ?_
  exact g_aret (o := some q) hx hb hr hlocks hI ⟨_, rfl, q, rfl, hq, by first | rfl | (simp only [gu_uu]; try rfl)⟩ dX10_newThing_81 (by omega) (by omega)
theorem SW.pns4 {E : gE} {x : Nat} {aa : Nat → Nat} {A : gA} {n : Nat} {G : gG} (hS : SW E x aa A n G) (hn : n < 600) (v : Int32) {q : Nat} (hq : G q = none) : SW E x (va_up aa (4 * (n + 1)) q) (nthg A 4 v) (n + 1) (gu G q (.inr (3, [.int v, .int 4]))) := by
  have i1 : ix (A 1 0 + 1) = n + 1 := by rw [hS.1.1, nI_1, ix_nI (by omega)]
  have e0 : nI 4 = 4 := by decide
  have h := hS.pnt hn (k0 := 4) (by decide) v hq (y := .inr (3, [.int v, .int 4])) (by
    rw [thc_4 (by rw [show nthg A (nI 4) v 2 (n + 1) = nI 4 by unfold nthg; simp [u2, i1]]; decide)]
    unfold nthg
    simp [u2, i1])
  rw [e0] at h
  exact h
set_option maxHeartbeats 4000000 in
set_option maxRecDepth 100000 in
theorem c_X10_newThing_5 (l : Launch) (E : gE) (b0 : Nat) (G : gG) (v : Int32) : gM l yX10_newThing cX10_newThing 2 (some (.object "HiveYard$Thing")) 4 1 3 E b0 G [.int 5, .int v] (pQ (fun v9 G1 => ∃ q, v9 = some q ∧ G q = none ∧ G1 = gu G q (.inr (0, [.int 5, .int v])))) := by
  refine gM.of (by decide +kernel) (Nat.le_of_ble_eq_true rfl) ?_
  intro pP eP sP mI bP meth cP ls hx hb hr hml hown hlocks hnm hts hK hI hl
  have hl : lv_has ls 2 [(0, .int 5), (1, .int v)] := hl
  have hown : sP.vm.findClass RX10 = some mI.cls := hown
  refine lv_iload_n hx hb dX10_newThing_0 rfl (lv_at hl 0 rfl) ?_
  refine lv_tableOut (tgt := 82) hx hb dX10_newThing_1 (by decide) (by decide) ?_
  refine g_new (index := 153) (ci := 0) (fs := [.int 0, .int 0]) hx hb hts inlX0 tyX0 tyX0_ok hown m_cl_X10_153 m_it_X0 m_in_X0 hK hI rfl (fun j hj => by rcases (show j = 0 ∨ j = 1 by omega) with rfl | rfl <;> rfl) (Nat.le_of_ble_eq_true rfl) (Nat.le_of_ble_eq_true rfl) dX10_newThing_82 (fun q H1 hq hI => ?_)
  refine lv_dup hx hb dX10_newThing_85 rfl ?_
  refine lv_iload_n hx hb dX10_newThing_86 rfl (lv_at hl 1 rfl) ?_
  refine g_callI (own := RX10) (index := 180) (n := 1) hx hb hml hown hts (c_X0_init_0 l E b0 _ q v (gu_s _ _ _)) m_ml_X10_180 m_im_X0_init m_in_X0 m_co_X0_init rfl (by decide +kernel) ⟨Nat.le_of_ble_eq_true rfl, Nat.le_of_ble_eq_true rfl⟩ ⟨by first | exact Nat.le_of_ble_eq_true rfl | (show _ ≤ 1; omega), by first | exact Nat.le_of_ble_eq_true rfl | (show _ ≤ 3; omega)⟩ rfl hl.1 rfl (Nat.le_of_ble_eq_true rfl) dX10_newThing_87 hK hI (fun r G1 H1 L1 hp hI => ?_)
  obtain ⟨rfl, rfl⟩ := hp
  refine W.eq (g2 := F0 mI 90 ls [.ref q]) rfl ?_
  exact g_aret (o := some q) hx hb hr hlocks hI ⟨_, rfl, q, rfl, hq, by first | rfl | (simp only [gu_uu]; try rfl)⟩ dX10_newThing_90 (by omega) (by omega)
theorem SW.pns5 {E : gE} {x : Nat} {aa : Nat → Nat} {A : gA} {n : Nat} {G : gG} (hS : SW E x aa A n G) (hn : n < 600) (v : Int32) {q : Nat} (hq : G q = none) : SW E x (va_up aa (4 * (n + 1)) q) (nthg A 5 v) (n + 1) (gu G q (.inr (0, [.int 5, .int v]))) := by
  have i1 : ix (A 1 0 + 1) = n + 1 := by rw [hS.1.1, nI_1, ix_nI (by omega)]
  have e0 : nI 5 = 5 := by decide
  have h := hS.pnt hn (k0 := 5) (by decide) v hq (y := .inr (0, [.int 5, .int v])) (by
    rw [thc_5 (by rw [show nthg A (nI 5) v 2 (n + 1) = nI 5 by unfold nthg; simp [u2, i1]]; decide)]
    unfold nthg
    simp [u2, i1])
  rw [e0] at h
  exact h
theorem adr_nw {aa : Nat → Nat} {A : gA} {n q : Nat} (h : A 1 0 = nI n) (hn : n + 1 < 600) : adr (va_up aa (4 * (n + 1)) q) (A 1 0 + 1) = some q := by
  rw [h, nI_1, adr_s (eqb_f (nI_ne0 (by omega) (by omega))), ix_nI (by omega), va_up_self]
theorem tv_nw {A : gA} {n : Nat} (h : A 1 0 = nI n) : tv (n + 1) (A 1 0 + 1) := ⟨n + 1, Nat.le_refl _, by rw [h, nI_1]⟩
set_option maxHeartbeats 4000000 in
set_option maxRecDepth 100000 in
theorem c_X10_set (l : Launch) (E : gE) (b0 : Nat) (G : gG) (x : Nat) (aa : Nat → Nat) (A : gA) (nn : Nat) (hS : SW E x aa A nn G) (hn : nn < 600) (hn1 : nn + 1 < 600) (s so v : Int32) : gM l yX10_set cX10_set 4 (some .int) 5 2 160 E b0 G [.ref x, .int s, .int so, .int v] (pI (fun v9 G1 => v9 = (sp_set A s so v).1 ∧ ∃ aa1 n1, n1 ≤ nn + 1 ∧ SW E x aa1 (sp_set A s so v).2 n1 G1)) := by
  obtain rfl : aa 0 = x := hS.2.2.1
  refine gM.of (by decide +kernel) (Nat.le_of_ble_eq_true rfl) ?_
  intro pP eP sP mI bP meth cP ls hx hb hr hml hown hlocks hnm hts hK hI hl
  have hl : lv_has ls 4 [(0, .ref (aa 0)), (1, .int s), (2, .int so), (3, .int v)] := hl
  have hown : sP.vm.findClass RX10 = some mI.cls := hown
  refine lv_iload_n hx hb dX10_set_0 rfl (lv_at hl 1 rfl) ?_
  refine g_callS (own := RX10) (index := 23) (n := 1) hx hb hml hown hts (c_X10_isShelf l E b0 _ s) m_ml_X10_23 m_st_X10_isShelf m_in_X10 m_co_X10_isShelf (by decide +kernel) ⟨Nat.le_of_ble_eq_true rfl, Nat.le_of_ble_eq_true rfl⟩ ⟨by first | exact Nat.le_of_ble_eq_true rfl | (show _ ≤ 2; omega), by first | exact Nat.le_of_ble_eq_true rfl | (show _ ≤ 160; omega)⟩ rfl hl.1 rfl (Nat.le_of_ble_eq_true rfl) dX10_set_1 hK hI (fun r G1 H1 L1 hp hI => ?_)
  obtain ⟨v, rfl, hGe, ⟨h_1, rfl⟩ | ⟨h_1, rfl⟩⟩ := hp
  · rw [hGe] at hI
    refine W.eq (g2 := F0 mI 4 ls [.int 1]) rfl ?_
    refine lv_if_eq (tgt := 16) hx hb dX10_set_4 (by decide) (fun c_2 => absurd c_2 (by decide)) (fun _ => ?_)
    refine lv_iload_n hx hb dX10_set_7 rfl (lv_at hl 2 rfl) ?_
    refine lv_if_lt (tgt := 16) hx hb dX10_set_8 (by decide) (fun c_3 => ?_) (fun c_3 => ?_)
    · refine lv_iconst (v := -1) hx hb dX10_set_16 (by decide) ?_
      have e9 : sp_set A s so v = ((-1), A) := by
        simp only [sp_set, inb, decide_true, decide_false, Bool.not_false, Bool.not_true, Bool.and_true, Bool.true_and, Bool.false_and, Bool.and_false, Bool.and_self, rfi, rfj, wHv, wRw, wSl, h_1, c_3, eqb_00, eqb_10, eqb_20, eqb_30, eqb_50, eqb_11, eqb_21, reduceIte, Bool.false_eq_true, not_true_eq_false, not_false_eq_true, ite_self]
      exact g_iret hx hb hr hlocks hI ⟨_, rfl, by rw [e9], aa, nn, by omega, by rw [e9]; exact hS⟩ dX10_set_17 (by omega) (by omega)
    · refine lv_iload_n hx hb dX10_set_11 rfl (lv_at hl 2 rfl) ?_
      refine lv_iconst (v := 5) hx hb dX10_set_12 (by decide) ?_
      refine lv_icmp_le (tgt := 18) hx hb dX10_set_13 (by decide) (fun c_4 => ?_) (fun c_4 => ?_)
      · have c_4 := Int32.not_lt.mpr c_4
        rcases glit5 c_3 c_4 with rfl | rfl | rfl | rfl | rfl | rfl
        · have _ := 0
          refine lv_aload_n hx hb dX10_set_18 rfl (lv_at hl 0 rfl) ?_
          refine g_get (index := 11) (ci := 8) hx hb hts inlX10 hown hK hI hS.2.2.2.1 rfl 0 (by decide) m_fl_X10_11 (fun _ h9 => h9) rfl dX10_set_19 ?_
          refine lv_iload_n hx hb dX10_set_22 rfl (lv_at hl 1 rfl) ?_
          refine lv_iload_n hx hb dX10_set_23 rfl (lv_at hl 2 rfl) ?_
          refine lv_iload_n hx hb dX10_set_24 rfl (lv_at hl 3 rfl) ?_
          refine g_callS (own := RX10) (index := 27) (n := 2) hx hb hml hown hts (c_X10_newThing_0 l E b0 _ v) m_ml_X10_27 m_st_X10_newThing m_in_X10 m_co_X10_newThing (by decide +kernel) ⟨Nat.le_of_ble_eq_true rfl, Nat.le_of_ble_eq_true rfl⟩ ⟨by first | exact Nat.le_of_ble_eq_true rfl | (show _ ≤ 2; omega), by first | exact Nat.le_of_ble_eq_true rfl | (show _ ≤ 160; omega)⟩ rfl hl.1 rfl (Nat.le_of_ble_eq_true rfl) dX10_set_25 hK hI (fun r G1 H1 L1 hp hI => ?_)
          obtain ⟨_, rfl, q, rfl, hq, hGe⟩ := hp
          rw [hGe] at hI
          have h10 := hS.1.1
          have hS := hS.pns0 hn v hq
          refine W.eq (g2 := F0 mI 28 ls [.ref q, .int s, .ref (aa 1)]) rfl ?_
          have hb1 : (va_up aa (4 * (nn + 1)) q) 1 = aa 1 := va_up_ne _ _ (by omega)
          have hbw : adr (va_up aa (4 * (nn + 1)) q) (A 1 0 + 1) = some q := adr_nw h10 hn1
          have htw := tv_nw h10
          refine W.eq (g2 := F0 mI 28 ls [va_rf (adr (va_up aa (4 * (nn + 1)) q) (A 1 0 + 1)), .int s, .ref ((va_up aa (4 * (nn + 1)) q) 1)]) (by rw [hbw, hb1]; rfl) ?_
          refine g_aast (o := adr (va_up aa (4 * (nn + 1)) q) (A 1 0 + 1)) hx hb hK hI 1 hS.2.2.2.2.1 rfl (hS.any hn1 hK hI htw) (sh_in h_1) dX10_set_28 (fun H1 L1 hI => ?_)
          have hS := hS.p0 (ix s) (sh_lt h_1) (w := A 1 0 + 1) htw
          refine W.eq (g2 := F0 mI 29 ls []) rfl ?_
          refine lv_iload_n hx hb dX10_set_29 rfl (lv_at hl 2 rfl) ?_
          have e9 : sp_set A s 0 v = (0, (u2 (nthg A 0 v) 0 (ix s) (A 1 0 + 1))) := by
            simp only [sp_set, inb, decide_true, decide_false, Bool.not_false, Bool.not_true, Bool.and_true, Bool.true_and, Bool.false_and, Bool.and_false, Bool.and_self, rfi, rfj, wHv, wRw, wSl, h_1, c_3, c_4, eqb_00, eqb_10, eqb_20, eqb_30, eqb_50, eqb_11, eqb_21, reduceIte, Bool.false_eq_true, not_true_eq_false, not_false_eq_true, ite_self]
          exact g_iret hx hb hr hlocks hI ⟨_, rfl, by rw [e9], _, (nn + 1), by omega, by rw [e9]; exact hS⟩ dX10_set_30 (by omega) (by omega)
        · have _ := 0
          refine lv_aload_n hx hb dX10_set_18 rfl (lv_at hl 0 rfl) ?_
          refine g_get (index := 11) (ci := 8) hx hb hts inlX10 hown hK hI hS.2.2.2.1 rfl 0 (by decide) m_fl_X10_11 (fun _ h9 => h9) rfl dX10_set_19 ?_
          refine lv_iload_n hx hb dX10_set_22 rfl (lv_at hl 1 rfl) ?_
          refine lv_iload_n hx hb dX10_set_23 rfl (lv_at hl 2 rfl) ?_
          refine lv_iload_n hx hb dX10_set_24 rfl (lv_at hl 3 rfl) ?_
          refine g_callS (own := RX10) (index := 27) (n := 2) hx hb hml hown hts (c_X10_newThing_1 l E b0 _ v) m_ml_X10_27 m_st_X10_newThing m_in_X10 m_co_X10_newThing (by decide +kernel) ⟨Nat.le_of_ble_eq_true rfl, Nat.le_of_ble_eq_true rfl⟩ ⟨by first | exact Nat.le_of_ble_eq_true rfl | (show _ ≤ 2; omega), by first | exact Nat.le_of_ble_eq_true rfl | (show _ ≤ 160; omega)⟩ rfl hl.1 rfl (Nat.le_of_ble_eq_true rfl) dX10_set_25 hK hI (fun r G1 H1 L1 hp hI => ?_)
          obtain ⟨_, rfl, q, rfl, hq, hGe⟩ := hp
          rw [hGe] at hI
          have h10 := hS.1.1
          have hS := hS.pns1 hn v hq
          refine W.eq (g2 := F0 mI 28 ls [.ref q, .int s, .ref (aa 1)]) rfl ?_
          have hb1 : (va_up aa (4 * (nn + 1)) q) 1 = aa 1 := va_up_ne _ _ (by omega)
          have hbw : adr (va_up aa (4 * (nn + 1)) q) (A 1 0 + 1) = some q := adr_nw h10 hn1
          have htw := tv_nw h10
          refine W.eq (g2 := F0 mI 28 ls [va_rf (adr (va_up aa (4 * (nn + 1)) q) (A 1 0 + 1)), .int s, .ref ((va_up aa (4 * (nn + 1)) q) 1)]) (by rw [hbw, hb1]; rfl) ?_
          refine g_aast (o := adr (va_up aa (4 * (nn + 1)) q) (A 1 0 + 1)) hx hb hK hI 1 hS.2.2.2.2.1 rfl (hS.any hn1 hK hI htw) (sh_in h_1) dX10_set_28 (fun H1 L1 hI => ?_)
          have hS := hS.p0 (ix s) (sh_lt h_1) (w := A 1 0 + 1) htw
          refine W.eq (g2 := F0 mI 29 ls []) rfl ?_
          refine lv_iload_n hx hb dX10_set_29 rfl (lv_at hl 2 rfl) ?_
          have e9 : sp_set A s 1 v = (1, (u2 (nthg A 1 v) 0 (ix s) (A 1 0 + 1))) := by
            simp only [sp_set, inb, decide_true, decide_false, Bool.not_false, Bool.not_true, Bool.and_true, Bool.true_and, Bool.false_and, Bool.and_false, Bool.and_self, rfi, rfj, wHv, wRw, wSl, h_1, c_3, c_4, eqb_00, eqb_10, eqb_20, eqb_30, eqb_50, eqb_11, eqb_21, reduceIte, Bool.false_eq_true, not_true_eq_false, not_false_eq_true, ite_self]
          exact g_iret hx hb hr hlocks hI ⟨_, rfl, by rw [e9], _, (nn + 1), by omega, by rw [e9]; exact hS⟩ dX10_set_30 (by omega) (by omega)
        · have _ := 0
          refine lv_aload_n hx hb dX10_set_18 rfl (lv_at hl 0 rfl) ?_
          refine g_get (index := 11) (ci := 8) hx hb hts inlX10 hown hK hI hS.2.2.2.1 rfl 0 (by decide) m_fl_X10_11 (fun _ h9 => h9) rfl dX10_set_19 ?_
          refine lv_iload_n hx hb dX10_set_22 rfl (lv_at hl 1 rfl) ?_
          refine lv_iload_n hx hb dX10_set_23 rfl (lv_at hl 2 rfl) ?_
          refine lv_iload_n hx hb dX10_set_24 rfl (lv_at hl 3 rfl) ?_
          refine g_callS (own := RX10) (index := 27) (n := 2) hx hb hml hown hts (c_X10_newThing_2 l E b0 _ v) m_ml_X10_27 m_st_X10_newThing m_in_X10 m_co_X10_newThing (by decide +kernel) ⟨Nat.le_of_ble_eq_true rfl, Nat.le_of_ble_eq_true rfl⟩ ⟨by first | exact Nat.le_of_ble_eq_true rfl | (show _ ≤ 2; omega), by first | exact Nat.le_of_ble_eq_true rfl | (show _ ≤ 160; omega)⟩ rfl hl.1 rfl (Nat.le_of_ble_eq_true rfl) dX10_set_25 hK hI (fun r G1 H1 L1 hp hI => ?_)
          obtain ⟨_, rfl, q, rfl, hq, hGe⟩ := hp
          rw [hGe] at hI
          have h10 := hS.1.1
          have hS := hS.pns2 hn v hq
          refine W.eq (g2 := F0 mI 28 ls [.ref q, .int s, .ref (aa 1)]) rfl ?_
          have hb1 : (va_up aa (4 * (nn + 1)) q) 1 = aa 1 := va_up_ne _ _ (by omega)
          have hbw : adr (va_up aa (4 * (nn + 1)) q) (A 1 0 + 1) = some q := adr_nw h10 hn1
          have htw := tv_nw h10
          refine W.eq (g2 := F0 mI 28 ls [va_rf (adr (va_up aa (4 * (nn + 1)) q) (A 1 0 + 1)), .int s, .ref ((va_up aa (4 * (nn + 1)) q) 1)]) (by rw [hbw, hb1]; rfl) ?_
          refine g_aast (o := adr (va_up aa (4 * (nn + 1)) q) (A 1 0 + 1)) hx hb hK hI 1 hS.2.2.2.2.1 rfl (hS.any hn1 hK hI htw) (sh_in h_1) dX10_set_28 (fun H1 L1 hI => ?_)
          have hS := hS.p0 (ix s) (sh_lt h_1) (w := A 1 0 + 1) htw
          refine W.eq (g2 := F0 mI 29 ls []) rfl ?_
          refine lv_iload_n hx hb dX10_set_29 rfl (lv_at hl 2 rfl) ?_
          have e9 : sp_set A s 2 v = (2, (u2 (nthg A 2 v) 0 (ix s) (A 1 0 + 1))) := by
            simp only [sp_set, inb, decide_true, decide_false, Bool.not_false, Bool.not_true, Bool.and_true, Bool.true_and, Bool.false_and, Bool.and_false, Bool.and_self, rfi, rfj, wHv, wRw, wSl, h_1, c_3, c_4, eqb_00, eqb_10, eqb_20, eqb_30, eqb_50, eqb_11, eqb_21, reduceIte, Bool.false_eq_true, not_true_eq_false, not_false_eq_true, ite_self]
          exact g_iret hx hb hr hlocks hI ⟨_, rfl, by rw [e9], _, (nn + 1), by omega, by rw [e9]; exact hS⟩ dX10_set_30 (by omega) (by omega)
        · have _ := 0
          refine lv_aload_n hx hb dX10_set_18 rfl (lv_at hl 0 rfl) ?_
          refine g_get (index := 11) (ci := 8) hx hb hts inlX10 hown hK hI hS.2.2.2.1 rfl 0 (by decide) m_fl_X10_11 (fun _ h9 => h9) rfl dX10_set_19 ?_
          refine lv_iload_n hx hb dX10_set_22 rfl (lv_at hl 1 rfl) ?_
          refine lv_iload_n hx hb dX10_set_23 rfl (lv_at hl 2 rfl) ?_
          refine lv_iload_n hx hb dX10_set_24 rfl (lv_at hl 3 rfl) ?_
          refine g_callS (own := RX10) (index := 27) (n := 2) hx hb hml hown hts (c_X10_newThing_3 l E b0 _ v) m_ml_X10_27 m_st_X10_newThing m_in_X10 m_co_X10_newThing (by decide +kernel) ⟨Nat.le_of_ble_eq_true rfl, Nat.le_of_ble_eq_true rfl⟩ ⟨by first | exact Nat.le_of_ble_eq_true rfl | (show _ ≤ 2; omega), by first | exact Nat.le_of_ble_eq_true rfl | (show _ ≤ 160; omega)⟩ rfl hl.1 rfl (Nat.le_of_ble_eq_true rfl) dX10_set_25 hK hI (fun r G1 H1 L1 hp hI => ?_)
          obtain ⟨_, rfl, q, rfl, hq, hGe⟩ := hp
          rw [hGe] at hI
          have h10 := hS.1.1
          have hS := hS.pns3 hn v hq
          refine W.eq (g2 := F0 mI 28 ls [.ref q, .int s, .ref (aa 1)]) rfl ?_
          have hb1 : (va_up aa (4 * (nn + 1)) q) 1 = aa 1 := va_up_ne _ _ (by omega)
          have hbw : adr (va_up aa (4 * (nn + 1)) q) (A 1 0 + 1) = some q := adr_nw h10 hn1
          have htw := tv_nw h10
          refine W.eq (g2 := F0 mI 28 ls [va_rf (adr (va_up aa (4 * (nn + 1)) q) (A 1 0 + 1)), .int s, .ref ((va_up aa (4 * (nn + 1)) q) 1)]) (by rw [hbw, hb1]; rfl) ?_
          refine g_aast (o := adr (va_up aa (4 * (nn + 1)) q) (A 1 0 + 1)) hx hb hK hI 1 hS.2.2.2.2.1 rfl (hS.any hn1 hK hI htw) (sh_in h_1) dX10_set_28 (fun H1 L1 hI => ?_)
          have hS := hS.p0 (ix s) (sh_lt h_1) (w := A 1 0 + 1) htw
          refine W.eq (g2 := F0 mI 29 ls []) rfl ?_
          refine lv_iload_n hx hb dX10_set_29 rfl (lv_at hl 2 rfl) ?_
          have e9 : sp_set A s 3 v = (3, (u2 (nthg A 3 v) 0 (ix s) (A 1 0 + 1))) := by
            simp only [sp_set, inb, decide_true, decide_false, Bool.not_false, Bool.not_true, Bool.and_true, Bool.true_and, Bool.false_and, Bool.and_false, Bool.and_self, rfi, rfj, wHv, wRw, wSl, h_1, c_3, c_4, eqb_00, eqb_10, eqb_20, eqb_30, eqb_50, eqb_11, eqb_21, reduceIte, Bool.false_eq_true, not_true_eq_false, not_false_eq_true, ite_self]
          exact g_iret hx hb hr hlocks hI ⟨_, rfl, by rw [e9], _, (nn + 1), by omega, by rw [e9]; exact hS⟩ dX10_set_30 (by omega) (by omega)
        · have _ := 0
          refine lv_aload_n hx hb dX10_set_18 rfl (lv_at hl 0 rfl) ?_
          refine g_get (index := 11) (ci := 8) hx hb hts inlX10 hown hK hI hS.2.2.2.1 rfl 0 (by decide) m_fl_X10_11 (fun _ h9 => h9) rfl dX10_set_19 ?_
          refine lv_iload_n hx hb dX10_set_22 rfl (lv_at hl 1 rfl) ?_
          refine lv_iload_n hx hb dX10_set_23 rfl (lv_at hl 2 rfl) ?_
          refine lv_iload_n hx hb dX10_set_24 rfl (lv_at hl 3 rfl) ?_
          refine g_callS (own := RX10) (index := 27) (n := 2) hx hb hml hown hts (c_X10_newThing_4 l E b0 _ v) m_ml_X10_27 m_st_X10_newThing m_in_X10 m_co_X10_newThing (by decide +kernel) ⟨Nat.le_of_ble_eq_true rfl, Nat.le_of_ble_eq_true rfl⟩ ⟨by first | exact Nat.le_of_ble_eq_true rfl | (show _ ≤ 2; omega), by first | exact Nat.le_of_ble_eq_true rfl | (show _ ≤ 160; omega)⟩ rfl hl.1 rfl (Nat.le_of_ble_eq_true rfl) dX10_set_25 hK hI (fun r G1 H1 L1 hp hI => ?_)
          obtain ⟨_, rfl, q, rfl, hq, hGe⟩ := hp
          rw [hGe] at hI
          have h10 := hS.1.1
          have hS := hS.pns4 hn v hq
          refine W.eq (g2 := F0 mI 28 ls [.ref q, .int s, .ref (aa 1)]) rfl ?_
          have hb1 : (va_up aa (4 * (nn + 1)) q) 1 = aa 1 := va_up_ne _ _ (by omega)
          have hbw : adr (va_up aa (4 * (nn + 1)) q) (A 1 0 + 1) = some q := adr_nw h10 hn1
          have htw := tv_nw h10
          refine W.eq (g2 := F0 mI 28 ls [va_rf (adr (va_up aa (4 * (nn + 1)) q) (A 1 0 + 1)), .int s, .ref ((va_up aa (4 * (nn + 1)) q) 1)]) (by rw [hbw, hb1]; rfl) ?_
          refine g_aast (o := adr (va_up aa (4 * (nn + 1)) q) (A 1 0 + 1)) hx hb hK hI 1 hS.2.2.2.2.1 rfl (hS.any hn1 hK hI htw) (sh_in h_1) dX10_set_28 (fun H1 L1 hI => ?_)
          have hS := hS.p0 (ix s) (sh_lt h_1) (w := A 1 0 + 1) htw
          refine W.eq (g2 := F0 mI 29 ls []) rfl ?_
          refine lv_iload_n hx hb dX10_set_29 rfl (lv_at hl 2 rfl) ?_
          have e9 : sp_set A s 4 v = (4, (u2 (nthg A 4 v) 0 (ix s) (A 1 0 + 1))) := by
            simp only [sp_set, inb, decide_true, decide_false, Bool.not_false, Bool.not_true, Bool.and_true, Bool.true_and, Bool.false_and, Bool.and_false, Bool.and_self, rfi, rfj, wHv, wRw, wSl, h_1, c_3, c_4, eqb_00, eqb_10, eqb_20, eqb_30, eqb_50, eqb_11, eqb_21, reduceIte, Bool.false_eq_true, not_true_eq_false, not_false_eq_true, ite_self]
          exact g_iret hx hb hr hlocks hI ⟨_, rfl, by rw [e9], _, (nn + 1), by omega, by rw [e9]; exact hS⟩ dX10_set_30 (by omega) (by omega)
        · have _ := 0
          refine lv_aload_n hx hb dX10_set_18 rfl (lv_at hl 0 rfl) ?_
          refine g_get (index := 11) (ci := 8) hx hb hts inlX10 hown hK hI hS.2.2.2.1 rfl 0 (by decide) m_fl_X10_11 (fun _ h9 => h9) rfl dX10_set_19 ?_
          refine lv_iload_n hx hb dX10_set_22 rfl (lv_at hl 1 rfl) ?_
          refine lv_iload_n hx hb dX10_set_23 rfl (lv_at hl 2 rfl) ?_
          refine lv_iload_n hx hb dX10_set_24 rfl (lv_at hl 3 rfl) ?_
          refine g_callS (own := RX10) (index := 27) (n := 2) hx hb hml hown hts (c_X10_newThing_5 l E b0 _ v) m_ml_X10_27 m_st_X10_newThing m_in_X10 m_co_X10_newThing (by decide +kernel) ⟨Nat.le_of_ble_eq_true rfl, Nat.le_of_ble_eq_true rfl⟩ ⟨by first | exact Nat.le_of_ble_eq_true rfl | (show _ ≤ 2; omega), by first | exact Nat.le_of_ble_eq_true rfl | (show _ ≤ 160; omega)⟩ rfl hl.1 rfl (Nat.le_of_ble_eq_true rfl) dX10_set_25 hK hI (fun r G1 H1 L1 hp hI => ?_)
          obtain ⟨_, rfl, q, rfl, hq, hGe⟩ := hp
          rw [hGe] at hI
          have h10 := hS.1.1
          have hS := hS.pns5 hn v hq
          refine W.eq (g2 := F0 mI 28 ls [.ref q, .int s, .ref (aa 1)]) rfl ?_
          have hb1 : (va_up aa (4 * (nn + 1)) q) 1 = aa 1 := va_up_ne _ _ (by omega)
          have hbw : adr (va_up aa (4 * (nn + 1)) q) (A 1 0 + 1) = some q := adr_nw h10 hn1
          have htw := tv_nw h10
          refine W.eq (g2 := F0 mI 28 ls [va_rf (adr (va_up aa (4 * (nn + 1)) q) (A 1 0 + 1)), .int s, .ref ((va_up aa (4 * (nn + 1)) q) 1)]) (by rw [hbw, hb1]; rfl) ?_
          refine g_aast (o := adr (va_up aa (4 * (nn + 1)) q) (A 1 0 + 1)) hx hb hK hI 1 hS.2.2.2.2.1 rfl (hS.any hn1 hK hI htw) (sh_in h_1) dX10_set_28 (fun H1 L1 hI => ?_)
          have hS := hS.p0 (ix s) (sh_lt h_1) (w := A 1 0 + 1) htw
          refine W.eq (g2 := F0 mI 29 ls []) rfl ?_
          refine lv_iload_n hx hb dX10_set_29 rfl (lv_at hl 2 rfl) ?_
          have e9 : sp_set A s 5 v = (5, (u2 (nthg A 5 v) 0 (ix s) (A 1 0 + 1))) := by
            simp only [sp_set, inb, decide_true, decide_false, Bool.not_false, Bool.not_true, Bool.and_true, Bool.true_and, Bool.false_and, Bool.and_false, Bool.and_self, rfi, rfj, wHv, wRw, wSl, h_1, c_3, c_4, eqb_00, eqb_10, eqb_20, eqb_30, eqb_50, eqb_11, eqb_21, reduceIte, Bool.false_eq_true, not_true_eq_false, not_false_eq_true, ite_self]
          exact g_iret hx hb hr hlocks hI ⟨_, rfl, by rw [e9], _, (nn + 1), by omega, by rw [e9]; exact hS⟩ dX10_set_30 (by omega) (by omega)
      · have c_4 := Int32.not_le.mp c_4
        refine lv_iconst (v := -1) hx hb dX10_set_16 (by decide) ?_
        have e9 : sp_set A s so v = ((-1), A) := by
          simp only [sp_set, inb, decide_true, decide_false, Bool.not_false, Bool.not_true, Bool.and_true, Bool.true_and, Bool.false_and, Bool.and_false, Bool.and_self, rfi, rfj, wHv, wRw, wSl, h_1, c_3, c_4, eqb_00, eqb_10, eqb_20, eqb_30, eqb_50, eqb_11, eqb_21, reduceIte, Bool.false_eq_true, not_true_eq_false, not_false_eq_true, ite_self]
        exact g_iret hx hb hr hlocks hI ⟨_, rfl, by rw [e9], aa, nn, by omega, by rw [e9]; exact hS⟩ dX10_set_17 (by omega) (by omega)
  · rw [hGe] at hI
    refine W.eq (g2 := F0 mI 4 ls [.int 0]) rfl ?_
    refine lv_if_eq (tgt := 16) hx hb dX10_set_4 (by decide) (fun _ => ?_) (fun c_5 => absurd c_5 (by decide))
    refine lv_iconst (v := -1) hx hb dX10_set_16 (by decide) ?_
    have e9 : sp_set A s so v = ((-1), A) := by
      simp only [sp_set, inb, decide_true, decide_false, Bool.not_false, Bool.not_true, Bool.and_true, Bool.true_and, Bool.false_and, Bool.and_false, Bool.and_self, rfi, rfj, wHv, wRw, wSl, h_1, eqb_00, eqb_10, eqb_20, eqb_30, eqb_50, eqb_11, eqb_21, reduceIte, Bool.false_eq_true, not_true_eq_false, not_false_eq_true, ite_self]
    exact g_iret hx hb hr hlocks hI ⟨_, rfl, by rw [e9], aa, nn, by omega, by rw [e9]; exact hS⟩ dX10_set_17 (by omega) (by omega)
theorem SW.phv0 {E : gE} {x : Nat} {aa : Nat → Nat} {A : gA} {n : Nat} {G : gG} (hS : SW E x aa A n G) (hn : n < 600) {j q q1 : Nat} (hj : j ≤ 30) (hq : G q = none) (hq1 : G q1 = none) (h12 : q1 ≠ q) (d : va_E) : SW E x (va_up (va_up aa (4 * (n + 1)) q) (4 * (n + 1) + 1) q1) (nrw (nthg A 6 0) (A 1 0 + 1) (nI j)) (n + 1) (gu (gu (gu G q d) q1 (.inl (E.2.2.2, j, .inr (.inr (.inr (.inr (fun _ => none))))))) q (.inr (5, [.int 6, .ref q1, .null, .null, .null, .null]))) := by
  have i1 : ix (A 1 0 + 1) = n + 1 := by rw [hS.1.1, nI_1, ix_nI (by omega)]
  have e0 : nI 6 = 6 := by decide
  have h := hS.pnt hn (k0 := 6) (by decide) 0 hq rfl
  rw [e0] at h
  have bq : va_up aa (4 * (n + 1)) q (4 * (n + 1)) = q := va_up_self _ _ _
  have B2 : nthg A 6 0 2 (n + 1) = 6 := by unfold nthg; simp [u2, i1]
  have B7 : nthg A 6 0 7 (n + 1) = -1 := by unfold nthg; simp [u2, i1]
  have B10 : nthg A 6 0 10 (n + 1) = 0 := by unfold nthg; simp [u2, i1]
  have B11 : nthg A 6 0 11 (n + 1) = 0 := by unfold nthg; simp [u2, i1]
  have B12 : nthg A 6 0 12 (n + 1) = 0 := by unfold nthg; simp [u2, i1]
  unfold nrw
  rw [i1]
  refine SW.p9 h (n + 1) j q1 (by omega) (Nat.le_refl _) hj (by rw [gu_n h12]; exact hq1) (fun p y1 y2 => ?_) (by rw [gu_n h12, gu_s]) ?_
  · rw [bq] at y2
    rw [gu_n y2, gu_n y1, gu_n y2, gu_n y2]
  · rw [bq, gu_s]
    refine congrArg some ?_
    rw [← p9y hj (by rw [B2]; decide) ⟨6, by decide, by rw [B2]; decide⟩]
    unfold hvf
    rw [B2, cbo_n (by rw [B7]; decide), B10, B11, B12, adr_z]
    rfl
theorem SW.phv1 {E : gE} {x : Nat} {aa : Nat → Nat} {A : gA} {n : Nat} {G : gG} (hS : SW E x aa A n G) (hn : n < 600) {j q q1 : Nat} (hj : j ≤ 30) (hq : G q = none) (hq1 : G q1 = none) (h12 : q1 ≠ q) (d : va_E) : SW E x (va_up (va_up aa (4 * (n + 1)) q) (4 * (n + 1) + 1) q1) (nrw (nthg A 7 0) (A 1 0 + 1) (nI j)) (n + 1) (gu (gu (gu G q d) q1 (.inl (E.2.2.2, j, .inr (.inr (.inr (.inr (fun _ => none))))))) q (.inr (5, [.int 7, .ref q1, .null, .null, .null, .null]))) := by
  have i1 : ix (A 1 0 + 1) = n + 1 := by rw [hS.1.1, nI_1, ix_nI (by omega)]
  have e0 : nI 7 = 7 := by decide
  have h := hS.pnt hn (k0 := 7) (by decide) 0 hq rfl
  rw [e0] at h
  have bq : va_up aa (4 * (n + 1)) q (4 * (n + 1)) = q := va_up_self _ _ _
  have B2 : nthg A 7 0 2 (n + 1) = 7 := by unfold nthg; simp [u2, i1]
  have B7 : nthg A 7 0 7 (n + 1) = -1 := by unfold nthg; simp [u2, i1]
  have B10 : nthg A 7 0 10 (n + 1) = 0 := by unfold nthg; simp [u2, i1]
  have B11 : nthg A 7 0 11 (n + 1) = 0 := by unfold nthg; simp [u2, i1]
  have B12 : nthg A 7 0 12 (n + 1) = 0 := by unfold nthg; simp [u2, i1]
  unfold nrw
  rw [i1]
  refine SW.p9 h (n + 1) j q1 (by omega) (Nat.le_refl _) hj (by rw [gu_n h12]; exact hq1) (fun p y1 y2 => ?_) (by rw [gu_n h12, gu_s]) ?_
  · rw [bq] at y2
    rw [gu_n y2, gu_n y1, gu_n y2, gu_n y2]
  · rw [bq, gu_s]
    refine congrArg some ?_
    rw [← p9y hj (by rw [B2]; decide) ⟨7, by decide, by rw [B2]; decide⟩]
    unfold hvf
    rw [B2, cbo_n (by rw [B7]; decide), B10, B11, B12, adr_z]
    rfl
theorem adr_nw2 {aa : Nat → Nat} {A : gA} {n q q1 : Nat} (h : A 1 0 = nI n) (hn : n + 1 < 600) : adr (va_up (va_up aa (4 * (n + 1)) q) (4 * (n + 1) + 1) q1) (A 1 0 + 1) = some q := by
  rw [adr_up (by omega)]
  exact adr_nw h hn
set_option maxHeartbeats 4000000 in
set_option maxRecDepth 100000 in
theorem c_X10_hive (l : Launch) (E : gE) (b0 : Nat) (G : gG) (x : Nat) (aa : Nat → Nat) (A : gA) (nn : Nat) (hS : SW E x aa A nn G) (hn : nn < 600) (hn1 : nn + 1 < 600) (s b n : Int32) : gM l yX10_hive cX10_hive 4 (some .int) 5 2 160 E b0 G [.ref x, .int s, .int b, .int n] (pI (fun v9 G1 => v9 = (sp_hive A s b n).1 ∧ ∃ aa1 n1, n1 ≤ nn + 1 ∧ SW E x aa1 (sp_hive A s b n).2 n1 G1)) := by
  obtain rfl : aa 0 = x := hS.2.2.1
  refine gM.of (by decide +kernel) (Nat.le_of_ble_eq_true rfl) ?_
  intro pP eP sP mI bP meth cP ls hx hb hr hml hown hlocks hnm hts hK hI hl
  have hl : lv_has ls 4 [(0, .ref (aa 0)), (1, .int s), (2, .int b), (3, .int n)] := hl
  have hown : sP.vm.findClass RX10 = some mI.cls := hown
  refine lv_iload_n hx hb dX10_hive_0 rfl (lv_at hl 1 rfl) ?_
  refine g_callS (own := RX10) (index := 23) (n := 1) hx hb hml hown hts (c_X10_isShelf l E b0 _ s) m_ml_X10_23 m_st_X10_isShelf m_in_X10 m_co_X10_isShelf (by decide +kernel) ⟨Nat.le_of_ble_eq_true rfl, Nat.le_of_ble_eq_true rfl⟩ ⟨by first | exact Nat.le_of_ble_eq_true rfl | (show _ ≤ 2; omega), by first | exact Nat.le_of_ble_eq_true rfl | (show _ ≤ 160; omega)⟩ rfl hl.1 rfl (Nat.le_of_ble_eq_true rfl) dX10_hive_1 hK hI (fun r G1 H1 L1 hp hI => ?_)
  obtain ⟨v, rfl, hGe, ⟨h_1, rfl⟩ | ⟨h_1, rfl⟩⟩ := hp
  · rw [hGe] at hI
    refine W.eq (g2 := F0 mI 4 ls [.int 1]) rfl ?_
    refine lv_if_eq (tgt := 13) hx hb dX10_hive_4 (by decide) (fun c_2 => absurd c_2 (by decide)) (fun _ => ?_)
    refine lv_iload_n hx hb dX10_hive_7 rfl (lv_at hl 3 rfl) ?_
    refine lv_bipush (v := 30) hx hb dX10_hive_8 (by decide) ?_
    refine lv_icmp_le (tgt := 15) hx hb dX10_hive_10 (by decide) (fun c_3 => ?_) (fun c_3 => ?_)
    · have c_3 := Int32.not_lt.mpr c_3
      refine lv_iload_n hx hb dX10_hive_15 rfl (lv_at hl 3 rfl) ?_
      refine lv_if_ge (tgt := 25) hx hb dX10_hive_16 (by decide) (fun c_4 => ?_) (fun c_4 => ?_)
      · have c_4 := Int32.not_lt.mpr c_4
        refine lv_aload_n hx hb dX10_hive_25 rfl (lv_at hl 0 rfl) ?_
        refine g_get (index := 11) (ci := 8) hx hb hts inlX10 hown hK hI hS.2.2.2.1 rfl 0 (by decide) m_fl_X10_11 (fun _ h9 => h9) rfl dX10_hive_26 ?_
        refine lv_iload_n hx hb dX10_hive_29 rfl (lv_at hl 1 rfl) ?_
        obtain ⟨j, hj, rfl⟩ := n30 (N := 30) c_4 c_3 (by decide)
        refine g_new (index := 35) (ci := 5) (fs := [.int 0, .null, .null, .null, .null, .null]) hx hb hts inlX5 tyX5 tyX5_ok hown m_cl_X10_35 m_it_X5 m_in_X5 hK hI rfl (fun j hj => by rcases (show j = 0 ∨ j = 1 ∨ j = 2 ∨ j = 3 ∨ j = 4 ∨ j = 5 by omega) with rfl | rfl | rfl | rfl | rfl | rfl <;> rfl) (Nat.le_of_ble_eq_true rfl) (Nat.le_of_ble_eq_true rfl) dX10_hive_30 (fun q H1 hq hI => ?_)
        refine lv_dup hx hb dX10_hive_33 rfl ?_
        refine lv_iload_n hx hb dX10_hive_34 rfl (lv_at hl 2 rfl) ?_
        refine lv_iload_n hx hb dX10_hive_35 rfl (lv_at hl 3 rfl) ?_
        refine g_newq hx hb hts hK hI 2 rfl hown m_cl_X10_37 hK.2.2.1 j (nI_pos (by omega)) (nI_clamp (by omega)) (by omega) (by first | exact Nat.le_of_ble_eq_true rfl | omega) (show _ ≤ 160 by omega) dX10_hive_36 (fun q1 H1 hq1 hI => ?_)
        rcases Classical.em (b = 0) with h_5 | h_5
        · have q_6 := eqb_t h_5
          refine g_callI (own := RX10) (index := 39) (n := 2) hx hb hml hown hts (c_X5_init_0 l E b0 _ q q1 b h_5 (gu_o hq1 (gu_s _ _ _))) m_ml_X10_39 m_im_X5_init m_in_X5 m_co_X5_init rfl (by decide +kernel) ⟨Nat.le_of_ble_eq_true rfl, Nat.le_of_ble_eq_true rfl⟩ ⟨by first | exact Nat.le_of_ble_eq_true rfl | (show _ ≤ 2; omega), by first | exact Nat.le_of_ble_eq_true rfl | (show _ ≤ 160; omega)⟩ rfl hl.1 rfl (Nat.le_of_ble_eq_true rfl) dX10_hive_39 hK hI (fun r G1 H1 L1 hp hI => ?_)
          obtain ⟨rfl, hGe⟩ := hp
          rw [hGe] at hI
          have h10 := hS.1.1
          have h12 : q1 ≠ q := ne_o hq1 (gu_s _ _ _)
          rw [gu_n h12] at hq1
          have hS := hS.phv0 hn hj hq hq1 h12 (.inr (5, [.int 0, .null, .null, .null, .null, .null]))
          refine W.eq (g2 := F0 mI 42 ls [.ref q, .int s, .ref (aa 1)]) rfl ?_
          have hb1 : (va_up (va_up aa (4 * (nn + 1)) q) (4 * (nn + 1) + 1) q1) 1 = aa 1 := by rw [va_up_ne _ _ (by omega), va_up_ne _ _ (by omega)]
          have hbw : adr (va_up (va_up aa (4 * (nn + 1)) q) (4 * (nn + 1) + 1) q1) (A 1 0 + 1) = some q := adr_nw2 h10 hn1
          have htw := tv_nw h10
          refine W.eq (g2 := F0 mI 42 ls [va_rf (adr (va_up (va_up aa (4 * (nn + 1)) q) (4 * (nn + 1) + 1) q1) (A 1 0 + 1)), .int s, .ref ((va_up (va_up aa (4 * (nn + 1)) q) (4 * (nn + 1) + 1) q1) 1)]) (by rw [hbw, hb1]; rfl) ?_
          refine g_aast (o := adr (va_up (va_up aa (4 * (nn + 1)) q) (4 * (nn + 1) + 1) q1) (A 1 0 + 1)) hx hb hK hI 1 hS.2.2.2.2.1 rfl (hS.any hn1 hK hI htw) (sh_in h_1) dX10_hive_42 (fun H1 L1 hI => ?_)
          have hS := hS.p0 (ix s) (sh_lt h_1) (w := A 1 0 + 1) htw
          refine W.eq (g2 := F0 mI 43 ls []) rfl ?_
          refine lv_iload_n hx hb dX10_hive_43 rfl (lv_at hl 3 rfl) ?_
          have e9 : sp_hive A s b (nI j) = ((nI j), (u2 (nrw (nthg A 6 0) (A 1 0 + 1) (nI j)) 0 (ix s) (A 1 0 + 1))) := by
            simp only [sp_hive, rfi, rfj, wHv, wRw, wSl, h_1, c_3, c_4, q_6, eqb_00, eqb_10, eqb_20, eqb_30, eqb_50, eqb_11, eqb_21, reduceIte, Bool.false_eq_true, not_true_eq_false, not_false_eq_true, ite_self]
          exact g_iret hx hb hr hlocks hI ⟨_, rfl, by rw [e9], _, (nn + 1), by omega, by rw [e9]; exact hS⟩ dX10_hive_44 (by omega) (by omega)
        · have q_7 := eqb_f h_5
          refine g_callI (own := RX10) (index := 39) (n := 2) hx hb hml hown hts (c_X5_init_1 l E b0 _ q q1 b h_5 (gu_o hq1 (gu_s _ _ _))) m_ml_X10_39 m_im_X5_init m_in_X5 m_co_X5_init rfl (by decide +kernel) ⟨Nat.le_of_ble_eq_true rfl, Nat.le_of_ble_eq_true rfl⟩ ⟨by first | exact Nat.le_of_ble_eq_true rfl | (show _ ≤ 2; omega), by first | exact Nat.le_of_ble_eq_true rfl | (show _ ≤ 160; omega)⟩ rfl hl.1 rfl (Nat.le_of_ble_eq_true rfl) dX10_hive_39 hK hI (fun r G1 H1 L1 hp hI => ?_)
          obtain ⟨rfl, hGe⟩ := hp
          rw [hGe] at hI
          have h10 := hS.1.1
          have h12 : q1 ≠ q := ne_o hq1 (gu_s _ _ _)
          rw [gu_n h12] at hq1
          have hS := hS.phv1 hn hj hq hq1 h12 (.inr (5, [.int 0, .null, .null, .null, .null, .null]))
          refine W.eq (g2 := F0 mI 42 ls [.ref q, .int s, .ref (aa 1)]) rfl ?_
          have hb1 : (va_up (va_up aa (4 * (nn + 1)) q) (4 * (nn + 1) + 1) q1) 1 = aa 1 := by rw [va_up_ne _ _ (by omega), va_up_ne _ _ (by omega)]
          have hbw : adr (va_up (va_up aa (4 * (nn + 1)) q) (4 * (nn + 1) + 1) q1) (A 1 0 + 1) = some q := adr_nw2 h10 hn1
          have htw := tv_nw h10
          refine W.eq (g2 := F0 mI 42 ls [va_rf (adr (va_up (va_up aa (4 * (nn + 1)) q) (4 * (nn + 1) + 1) q1) (A 1 0 + 1)), .int s, .ref ((va_up (va_up aa (4 * (nn + 1)) q) (4 * (nn + 1) + 1) q1) 1)]) (by rw [hbw, hb1]; rfl) ?_
          refine g_aast (o := adr (va_up (va_up aa (4 * (nn + 1)) q) (4 * (nn + 1) + 1) q1) (A 1 0 + 1)) hx hb hK hI 1 hS.2.2.2.2.1 rfl (hS.any hn1 hK hI htw) (sh_in h_1) dX10_hive_42 (fun H1 L1 hI => ?_)
          have hS := hS.p0 (ix s) (sh_lt h_1) (w := A 1 0 + 1) htw
          refine W.eq (g2 := F0 mI 43 ls []) rfl ?_
          refine lv_iload_n hx hb dX10_hive_43 rfl (lv_at hl 3 rfl) ?_
          have e9 : sp_hive A s b (nI j) = ((nI j), (u2 (nrw (nthg A 7 0) (A 1 0 + 1) (nI j)) 0 (ix s) (A 1 0 + 1))) := by
            simp only [sp_hive, rfi, rfj, wHv, wRw, wSl, h_1, c_3, c_4, q_7, eqb_00, eqb_10, eqb_20, eqb_30, eqb_50, eqb_11, eqb_21, reduceIte, Bool.false_eq_true, not_true_eq_false, not_false_eq_true, ite_self]
          exact g_iret hx hb hr hlocks hI ⟨_, rfl, by rw [e9], _, (nn + 1), by omega, by rw [e9]; exact hS⟩ dX10_hive_44 (by omega) (by omega)
      · have c_4 := Int32.not_le.mp c_4
        refine lv_aload_n hx hb dX10_hive_19 rfl (lv_at hl 0 rfl) ?_
        refine lv_iconst (v := 2) hx hb dX10_hive_20 (by decide) ?_
        refine g_callV (own := RX10) (index := 31) (n := 1) hx hb hml hown hts (c_X10_refuse l E b0 _ _ aa _ nn hS hn 2 (vp_in_iff.mpr (by decide))) hS.2.2.2.1 rfl rfl m_ml_X10_31 m_im_X10_refuse m_se_X10_X10_refuse_X10_refuse m_in_X10 m_co_X10_refuse (by decide +kernel) ⟨Nat.le_of_ble_eq_true rfl, Nat.le_of_ble_eq_true rfl⟩ ⟨by first | exact Nat.le_of_ble_eq_true rfl | (show _ ≤ 2; omega), by first | exact Nat.le_of_ble_eq_true rfl | (show _ ≤ 160; omega)⟩ rfl hl.1 rfl (Nat.le_of_ble_eq_true rfl) dX10_hive_21 hK hI (fun r G1 H1 L1 hp hI => ?_)
        obtain ⟨v, rfl, ev, hS⟩ := hp
        subst ev
        refine W.eq (g2 := F0 mI 24 ls [.int (-10 - 2)]) rfl ?_
        have e9 : sp_hive A s b n = ((-10 - 2), (rfs A 2)) := by
          simp only [sp_hive, rfi, rfj, wHv, wRw, wSl, h_1, c_3, c_4, eqb_00, eqb_10, eqb_20, eqb_30, eqb_50, eqb_11, eqb_21, reduceIte, Bool.false_eq_true, not_true_eq_false, not_false_eq_true, ite_self]
        exact g_iret hx hb hr hlocks hI ⟨_, rfl, by rw [e9], aa, nn, by omega, by rw [e9]; exact hS⟩ dX10_hive_24 (by omega) (by omega)
    · have c_3 := Int32.not_le.mp c_3
      refine lv_iconst (v := -1) hx hb dX10_hive_13 (by decide) ?_
      have e9 : sp_hive A s b n = ((-1), A) := by
        simp only [sp_hive, rfi, rfj, wHv, wRw, wSl, h_1, c_3, eqb_00, eqb_10, eqb_20, eqb_30, eqb_50, eqb_11, eqb_21, reduceIte, Bool.false_eq_true, not_true_eq_false, not_false_eq_true, ite_self]
      exact g_iret hx hb hr hlocks hI ⟨_, rfl, by rw [e9], aa, nn, by omega, by rw [e9]; exact hS⟩ dX10_hive_14 (by omega) (by omega)
  · rw [hGe] at hI
    refine W.eq (g2 := F0 mI 4 ls [.int 0]) rfl ?_
    refine lv_if_eq (tgt := 13) hx hb dX10_hive_4 (by decide) (fun _ => ?_) (fun c_8 => absurd c_8 (by decide))
    refine lv_iconst (v := -1) hx hb dX10_hive_13 (by decide) ?_
    have e9 : sp_hive A s b n = ((-1), A) := by
      simp only [sp_hive, rfi, rfj, wHv, wRw, wSl, h_1, eqb_00, eqb_10, eqb_20, eqb_30, eqb_50, eqb_11, eqb_21, reduceIte, Bool.false_eq_true, not_true_eq_false, not_false_eq_true, ite_self]
    exact g_iret hx hb hr hlocks hI ⟨_, rfl, by rw [e9], aa, nn, by omega, by rw [e9]; exact hS⟩ dX10_hive_14 (by omega) (by omega)
