set_option maxHeartbeats 4000000 in
set_option maxRecDepth 100000 in
theorem c_X10_harvest (l : Launch) (E : gE) (b0 : Nat) (G : gG) (x : Nat) (aa : Nat → Nat) (A : gA) (nn : Nat) (hS : SW E x aa A nn G) (hn : nn < 600) (s v : Int32) : gM l yX10_harvest cX10_harvest 7 (some .long) 5 2 160 E b0 G [.ref x, .int s, .int v] (pL (fun v9 G1 => v9 = (sp_harvc A s v).1 ∧ ∃ aa1 n1, n1 ≤ nn + 1 ∧ SW E x aa1 (sp_harvc A s v).2 n1 G1)) := by
  obtain rfl : aa 0 = x := hS.2.2.1
  refine gM.of (by decide +kernel) (Nat.le_of_ble_eq_true rfl) ?_
  intro pP eP sP mI bP meth cP ls hx hb hr hml hown hlocks hnm hts hK hI hl
  have hl : lv_has ls 7 [(0, .ref (aa 0)), (1, .int s), (2, .int v)] := hl
  have hown : sP.vm.findClass RX10 = some mI.cls := hown
  refine lv_iload_n hx hb dX10_harvest_0 rfl (lv_at hl 1 rfl) ?_
  refine g_callS (own := RX10) (index := 23) (n := 1) hx hb hml hown hts (c_X10_isShelf l E b0 _ s) m_ml_X10_23 m_st_X10_isShelf m_in_X10 m_co_X10_isShelf (by decide +kernel) ⟨Nat.le_of_ble_eq_true rfl, Nat.le_of_ble_eq_true rfl⟩ ⟨by first | exact Nat.le_of_ble_eq_true rfl | (show _ ≤ 2; omega), by first | exact Nat.le_of_ble_eq_true rfl | (show _ ≤ 160; omega)⟩ rfl hl.1 rfl (Nat.le_of_ble_eq_true rfl) dX10_harvest_1 hK hI (fun r G1 H1 L1 hp hI => ?_)
  obtain ⟨v, rfl, hGe, ⟨h_1, rfl⟩ | ⟨h_1, rfl⟩⟩ := hp
  · rw [hGe] at hI
    refine W.eq (g2 := F0 mI 4 ls [.int 1]) rfl ?_
    refine lv_if_eq (tgt := 12) hx hb dX10_harvest_4 (by decide) (fun c_2 => absurd c_2 (by decide)) (fun _ => ?_)
    refine lv_iload_n hx hb dX10_harvest_7 rfl (lv_at hl 2 rfl) ?_
    refine lv_iconst (v := 1) hx hb dX10_harvest_8 (by decide) ?_
    refine lv_icmp_ge (tgt := 16) hx hb dX10_harvest_9 (by decide) (fun c_3 => ?_) (fun c_3 => ?_)
    · have c_3 := Int32.not_lt.mpr c_3
      refine lv_aload_n hx hb dX10_harvest_16 rfl (lv_at hl 0 rfl) ?_
      refine g_get (index := 11) (ci := 8) hx hb hts inlX10 hown hK hI hS.2.2.2.1 rfl 0 (by decide) m_fl_X10_11 (fun _ h9 => h9) rfl dX10_harvest_17 ?_
      refine lv_iload_n hx hb dX10_harvest_20 rfl (lv_at hl 1 rfl) ?_
      rcases btf (eqb (A 0 (ix s)) 0) with h_4 | h_4
      · have z_5 := fun lo hi => fit_0 (A := A) lo hi h_4
        have t_6 : tv nn (A 0 (ix s)) := (hS.tsh h_1)
        refine g_aald hx hb hK hI 1 hS.2.2.2.2.1 rfl (sh_in h_1) dX10_harvest_21 ?_
        refine W.eq (g2 := F0 mI 22 ls [.null]) (by rw [show shf aa A (Int32.toNatClampNeg s) = adr aa (A 0 (ix s)) from shf_at h_1, adr_n h_4]; rfl) ?_
        refine g_callS (own := RX10) (index := 54) (n := 1) hx hb hml hown hts (c_X10_asHive_n l E b0 _) m_ml_X10_54 m_st_X10_asHive m_in_X10 m_co_X10_asHive (by decide +kernel) ⟨Nat.le_of_ble_eq_true rfl, Nat.le_of_ble_eq_true rfl⟩ ⟨by first | exact Nat.le_of_ble_eq_true rfl | (show _ ≤ 2; omega), by first | exact Nat.le_of_ble_eq_true rfl | (show _ ≤ 160; omega)⟩ rfl hl.1 rfl (Nat.le_of_ble_eq_true rfl) dX10_harvest_22 hK hI (fun r G1 H1 L1 hp hI => ?_)
        obtain ⟨v, rfl, ev, hGe⟩ := hp
        subst ev
        rw [hGe] at hI
        refine W.eq (g2 := F0 mI 25 ls [.null]) rfl ?_
        refine g_callS (own := RX10) (index := 90) (n := 1) hx hb hml hown hts (c_X10_rowOf_n l E b0 _) m_ml_X10_90 m_st_X10_rowOf m_in_X10 m_co_X10_rowOf (by decide +kernel) ⟨Nat.le_of_ble_eq_true rfl, Nat.le_of_ble_eq_true rfl⟩ ⟨by first | exact Nat.le_of_ble_eq_true rfl | (show _ ≤ 2; omega), by first | exact Nat.le_of_ble_eq_true rfl | (show _ ≤ 160; omega)⟩ rfl hl.1 rfl (Nat.le_of_ble_eq_true rfl) dX10_harvest_25 hK hI (fun r G1 H1 L1 hp hI => ?_)
        obtain ⟨v, rfl, ev, hGe⟩ := hp
        subst ev
        rw [hGe] at hI
        refine W.eq (g2 := F0 mI 28 ls [.null]) rfl ?_
        refine lv_astore_nN (lv' := [(3, .null), (0, .ref (aa 0)), (1, .int s), (2, .int v)]) hx hb dX10_harvest_28 rfl hl (by decide) rfl (fun ls hl => ?_)
        refine lv_aload_nN hx hb dX10_harvest_29 rfl (lv_at hl 0 rfl) ?_
        refine lv_ifnonnullN hx hb dX10_harvest_30 ?_
        refine lv_aload_n hx hb dX10_harvest_33 rfl (lv_at hl 1 rfl) ?_
        refine lv_aload_n hx hb dX10_harvest_34 rfl (lv_at hl 1 rfl) ?_
        refine g_get (index := 11) (ci := 8) hx hb hts inlX10 hown hK hI hS.2.2.2.1 rfl 0 (by decide) m_fl_X10_11 (fun _ h9 => h9) rfl dX10_harvest_35 ?_
        refine lv_iload_n hx hb dX10_harvest_38 rfl (lv_at hl 2 rfl) ?_
        refine g_aald hx hb hK hI 1 hS.2.2.2.2.1 rfl (sh_in h_1) dX10_harvest_39 ?_
        refine W.eq (g2 := F0 mI 40 ls [.null, .ref (aa 0)]) (by rw [show shf aa A (Int32.toNatClampNeg s) = adr aa (A 0 (ix s)) from shf_at h_1, adr_n h_4]; rfl) ?_
        refine g_callS (own := RX10) (index := 66) (n := 1) hx hb hml hown hts (c_X10_castOrNull_n l E b0 _) m_ml_X10_66 m_st_X10_castOrNull m_in_X10 m_co_X10_castOrNull (by decide +kernel) ⟨Nat.le_of_ble_eq_true rfl, Nat.le_of_ble_eq_true rfl⟩ ⟨by first | exact Nat.le_of_ble_eq_true rfl | (show _ ≤ 2; omega), by first | exact Nat.le_of_ble_eq_true rfl | (show _ ≤ 160; omega)⟩ rfl hl.1 rfl (Nat.le_of_ble_eq_true rfl) dX10_harvest_40 hK hI (fun r G1 H1 L1 hp hI => ?_)
        obtain ⟨v, rfl, ev, hGe⟩ := hp
        subst ev
        rw [hGe] at hI
        refine W.eq (g2 := F0 mI 43 ls [.int 1, .ref (aa 0)]) rfl ?_
        refine g_callV (own := RX10) (index := 96) (n := 1) hx hb hml hown hts (c_X10_refuseLong l E b0 _ _ aa _ nn hS hn 1 (vp_in_iff.mpr (by decide))) hS.2.2.2.1 rfl rfl m_ml_X10_96 m_im_X10_refuseLong m_se_X10_X10_refuseLong_X10_refuseLong m_in_X10 m_co_X10_refuseLong (by decide +kernel) ⟨Nat.le_of_ble_eq_true rfl, Nat.le_of_ble_eq_true rfl⟩ ⟨by first | exact Nat.le_of_ble_eq_true rfl | (show _ ≤ 2; omega), by first | exact Nat.le_of_ble_eq_true rfl | (show _ ≤ 160; omega)⟩ rfl hl.1 rfl (Nat.le_of_ble_eq_true rfl) dX10_harvest_43 hK hI (fun r G1 H1 L1 hp hI => ?_)
        obtain ⟨v, rfl, ev, hS⟩ := hp
        subst ev
        refine W.eq (g2 := F0 mI 46 ls [.long (-9223372036854775708 + ((-10 - 1) : Int32).toInt64)]) rfl ?_
        have e9 : sp_harvc A s v = ((-9223372036854775708 + ((-10 - 1) : Int32).toInt64), (rfs A 1)) := by
          simp only [sp_harvc, rfi, rfj, wHv, wRw, wSl, h_1, c_3, h_4, z_5, eqb_00, eqb_10, eqb_20, eqb_30, eqb_50, eqb_11, eqb_21, reduceIte, Bool.false_eq_true, not_true_eq_false, not_false_eq_true, ite_self]
        exact g_lret hx hb hr hlocks hI ⟨_, rfl, by rw [e9], aa, nn, by omega, by rw [e9]; exact hS⟩ dX10_harvest_46 (by omega) (by omega)
      · have _ := 0
        have t_7 : tv nn (A 0 (ix s)) := (hS.tsh h_1)
        refine g_aald hx hb hK hI 1 hS.2.2.2.2.1 rfl (sh_in h_1) dX10_harvest_21 ?_
        refine W.eq (g2 := F0 mI 22 ls [.ref (aa (4 * ix (A 0 (ix s))))]) (by rw [show shf aa A (Int32.toNatClampNeg s) = adr aa (A 0 (ix s)) from shf_at h_1, adr_s h_4]; rfl) ?_
        rcases btf (fit A (A 0 (ix s)) 6 7) with h_8 | h_8
        · have _ := 0
          refine g_callS (own := RX10) (index := 54) (n := 1) hx hb hml hown hts (c_X10_asHive_y l E b0 _ (aa (4 * ix (A 0 (ix s)))) _ _ (hS.at hn t_7 h_4) (cix_in _) (hS.gs hn t_7 h_4 5 (by decide) h_8)) m_ml_X10_54 m_st_X10_asHive m_in_X10 m_co_X10_asHive (by decide +kernel) ⟨Nat.le_of_ble_eq_true rfl, Nat.le_of_ble_eq_true rfl⟩ ⟨by first | exact Nat.le_of_ble_eq_true rfl | (show _ ≤ 2; omega), by first | exact Nat.le_of_ble_eq_true rfl | (show _ ≤ 160; omega)⟩ rfl hl.1 rfl (Nat.le_of_ble_eq_true rfl) dX10_harvest_22 hK hI (fun r G1 H1 L1 hp hI => ?_)
          obtain ⟨v, rfl, ev, hGe⟩ := hp
          subst ev
          rw [hGe] at hI
          refine W.eq (g2 := F0 mI 25 ls [.ref (aa (4 * ix (A 0 (ix s))))]) rfl ?_
          rcases Classical.em ((A 5 (ix (A 0 (ix s)))) < 0) with h_9 | h_9
          · have _ := 0
            refine g_callS (own := RX10) (index := 90) (n := 1) hx hb hml hown hts (c_X10_rowOf_r l E b0 _ (aa (4 * ix (A 0 (ix s)))) _ _ _ _ _ _ (hS.hv hn t_7 h_4 h_8)) m_ml_X10_90 m_st_X10_rowOf m_in_X10 m_co_X10_rowOf (by decide +kernel) ⟨Nat.le_of_ble_eq_true rfl, Nat.le_of_ble_eq_true rfl⟩ ⟨by first | exact Nat.le_of_ble_eq_true rfl | (show _ ≤ 2; omega), by first | exact Nat.le_of_ble_eq_true rfl | (show _ ≤ 160; omega)⟩ rfl hl.1 rfl (Nat.le_of_ble_eq_true rfl) dX10_harvest_25 hK hI (fun r G1 H1 L1 hp hI => ?_)
            obtain ⟨v, rfl, ev, hGe⟩ := hp
            rw [rwo_n h_9] at ev
            subst ev
            rw [hGe] at hI
            refine W.eq (g2 := F0 mI 28 ls [.null]) rfl ?_
            refine lv_astore_nN (lv' := [(3, .null), (0, .ref (aa 0)), (1, .int s), (2, .int v)]) hx hb dX10_harvest_28 rfl hl (by decide) rfl (fun ls hl => ?_)
            refine lv_aload_nN hx hb dX10_harvest_29 rfl (lv_at hl 0 rfl) ?_
            refine lv_ifnonnullN hx hb dX10_harvest_30 ?_
            refine lv_aload_n hx hb dX10_harvest_33 rfl (lv_at hl 1 rfl) ?_
            refine lv_aload_n hx hb dX10_harvest_34 rfl (lv_at hl 1 rfl) ?_
            refine g_get (index := 11) (ci := 8) hx hb hts inlX10 hown hK hI hS.2.2.2.1 rfl 0 (by decide) m_fl_X10_11 (fun _ h9 => h9) rfl dX10_harvest_35 ?_
            refine lv_iload_n hx hb dX10_harvest_38 rfl (lv_at hl 2 rfl) ?_
            refine g_aald hx hb hK hI 1 hS.2.2.2.2.1 rfl (sh_in h_1) dX10_harvest_39 ?_
            refine W.eq (g2 := F0 mI 40 ls [.ref (aa (4 * ix (A 0 (ix s)))), .ref (aa 0)]) (by rw [show shf aa A (Int32.toNatClampNeg s) = adr aa (A 0 (ix s)) from shf_at h_1, adr_s h_4]; rfl) ?_
            refine g_callS (own := RX10) (index := 66) (n := 1) hx hb hml hown hts (c_X10_castOrNull_y l E b0 _ (aa (4 * ix (A 0 (ix s)))) _ _ (hS.at hn t_7 h_4) (cix_in _) (hS.gs hn t_7 h_4 5 (by decide) h_8)) m_ml_X10_66 m_st_X10_castOrNull m_in_X10 m_co_X10_castOrNull (by decide +kernel) ⟨Nat.le_of_ble_eq_true rfl, Nat.le_of_ble_eq_true rfl⟩ ⟨by first | exact Nat.le_of_ble_eq_true rfl | (show _ ≤ 2; omega), by first | exact Nat.le_of_ble_eq_true rfl | (show _ ≤ 160; omega)⟩ rfl hl.1 rfl (Nat.le_of_ble_eq_true rfl) dX10_harvest_40 hK hI (fun r G1 H1 L1 hp hI => ?_)
            obtain ⟨v, rfl, ev, hGe⟩ := hp
            subst ev
            rw [hGe] at hI
            refine W.eq (g2 := F0 mI 43 ls [.int 1, .ref (aa 0)]) rfl ?_
            refine g_callV (own := RX10) (index := 96) (n := 1) hx hb hml hown hts (c_X10_refuseLong l E b0 _ _ aa _ nn hS hn 1 (vp_in_iff.mpr (by decide))) hS.2.2.2.1 rfl rfl m_ml_X10_96 m_im_X10_refuseLong m_se_X10_X10_refuseLong_X10_refuseLong m_in_X10 m_co_X10_refuseLong (by decide +kernel) ⟨Nat.le_of_ble_eq_true rfl, Nat.le_of_ble_eq_true rfl⟩ ⟨by first | exact Nat.le_of_ble_eq_true rfl | (show _ ≤ 2; omega), by first | exact Nat.le_of_ble_eq_true rfl | (show _ ≤ 160; omega)⟩ rfl hl.1 rfl (Nat.le_of_ble_eq_true rfl) dX10_harvest_43 hK hI (fun r G1 H1 L1 hp hI => ?_)
            obtain ⟨v, rfl, ev, hS⟩ := hp
            subst ev
            refine W.eq (g2 := F0 mI 46 ls [.long (-9223372036854775708 + ((-10 - 1) : Int32).toInt64)]) rfl ?_
            have e9 : sp_harvc A s v = ((-9223372036854775708 + ((-10 - 1) : Int32).toInt64), (rfs A 1)) := by
              simp only [sp_harvc, rfi, rfj, wHv, wRw, wSl, h_1, c_3, h_4, h_8, h_9, eqb_00, eqb_10, eqb_20, eqb_30, eqb_50, eqb_11, eqb_21, reduceIte, Bool.false_eq_true, not_true_eq_false, not_false_eq_true, ite_self]
            exact g_lret hx hb hr hlocks hI ⟨_, rfl, by rw [e9], aa, nn, by omega, by rw [e9]; exact hS⟩ dX10_harvest_46 (by omega) (by omega)
          · have _ := 0
            refine g_callS (own := RX10) (index := 90) (n := 1) hx hb hml hown hts (c_X10_rowOf_r l E b0 _ (aa (4 * ix (A 0 (ix s)))) _ _ _ _ _ _ (hS.hv hn t_7 h_4 h_8)) m_ml_X10_90 m_st_X10_rowOf m_in_X10 m_co_X10_rowOf (by decide +kernel) ⟨Nat.le_of_ble_eq_true rfl, Nat.le_of_ble_eq_true rfl⟩ ⟨by first | exact Nat.le_of_ble_eq_true rfl | (show _ ≤ 2; omega), by first | exact Nat.le_of_ble_eq_true rfl | (show _ ≤ 160; omega)⟩ rfl hl.1 rfl (Nat.le_of_ble_eq_true rfl) dX10_harvest_25 hK hI (fun r G1 H1 L1 hp hI => ?_)
            obtain ⟨v, rfl, ev, hGe⟩ := hp
            rw [rwo_s h_9] at ev
            subst ev
            rw [hGe] at hI
            refine W.eq (g2 := F0 mI 28 ls [.ref (aa (4 * ix (A 0 (ix s)) + 1))]) rfl ?_
            refine lv_astore_n (lv' := [(3, .ref (aa (4 * ix (A 0 (ix s)) + 1))), (0, .ref (aa 0)), (1, .int s), (2, .int v)]) hx hb dX10_harvest_28 rfl hl (by decide) rfl (fun ls hl => ?_)
            refine lv_aload_n hx hb dX10_harvest_29 rfl (lv_at hl 0 rfl) ?_
            refine lv_ifnonnull (tgt := 47) hx hb dX10_harvest_30 (by decide) ?_
            refine lv_iconst (v := 0) hx hb dX10_harvest_47 (by decide) ?_
            refine lv_istore (lv' := [(4, .int 0), (3, .ref (aa (4 * ix (A 0 (ix s)) + 1))), (0, .ref (aa 0)), (1, .int s), (2, .int v)]) hx hb dX10_harvest_48 hl (by decide) rfl (fun ls hl => ?_)
            refine lv_iconst (v := 0) hx hb dX10_harvest_50 (by decide) ?_
            refine lv_istore (lv' := [(5, .int 0), (4, .int 0), (3, .ref (aa (4 * ix (A 0 (ix s)) + 1))), (0, .ref (aa 0)), (1, .int s), (2, .int v)]) hx hb dX10_harvest_51 hl (by decide) rfl (fun ls hl => ?_)
            obtain ⟨A0, hA0⟩ : ∃ z, z = A := ⟨A, rfl⟩
            subst hA0
            have ht0 : tv nn (A0 0 (ix s)) := t_7
            have hz0 : eqb (A0 0 (ix s)) 0 = false := h_4
            have h50 : ¬ A0 5 (ix (A0 0 (ix s))) < 0 := h_9
            have eS : sp_harvc A0 s v = ((hvc A0 (A0 0 (ix s)) v (ix (A0 5 (ix (A0 0 (ix s)))))).1.toInt64, (hvc A0 (A0 0 (ix s)) v (ix (A0 5 (ix (A0 0 (ix s)))))).2) := by
              simp only [sp_harvc, rfi, rfj, wHv, wRw, wSl, h_1, c_3, h_4, h_8, h_9, eqb_00, eqb_10, eqb_20, eqb_30, eqb_50, eqb_11, eqb_21, reduceIte, Bool.false_eq_true, not_true_eq_false, not_false_eq_true, ite_self]
            have key : ∀ (j : Nat) (i : Nat) (wnt : Int32) (A : gA) (G1 : gG) (H1 : Heap) (L1 : List Loc) (ls : Array Slot), i + j = ix (A0 5 (ix (A0 0 (ix s)))) → hvc A0 (A0 0 (ix s)) v i = (wnt, A) → SW E (aa 0) aa A nn G1 → gI E.1 b0 G sP.heap G1 H1 L1 → lv_has ls 7 [(5, .int (nI i)), (4, .int wnt), (0, .ref (aa 0)), (1, .int s), (2, .int v), (3, .ref (aa (4 * ix (A0 0 (ix s)) + 1)))] → W pP l eP (rmL 5 2 160) sP mI [.ref (aa 0), .int s, .int v].toArray bP meth cP H1 L1 0 0 (MQ bP (gQ E b0 G (pL (fun v9 G1 => v9 = (sp_harvc A0 s v).1 ∧ ∃ aa1 n1, n1 ≤ nn + 1 ∧ SW E (aa 0) aa1 (sp_harvc A0 s v).2 n1 G1))) [.ref (aa 0), .int s, .int v].toArray sP 2 160 (fun q => b0 ≤ q)) (F0 mI 53 ls []) := by
              intro j
              induction j with
              | zero =>
                intro i wnt A G1 H1 L1 ls hki hT hS hI hl
                have o : ∀ k, k ≠ 3 → A k = A0 k := hvc_o hT
                have h5 : ¬ A 5 (ix (A0 0 (ix s))) < 0 := by rw [o 5 (by decide)]; exact h50
                have hL := hS.len30 hn ht0
                have eL : ix (A 5 (ix (A0 0 (ix s)))) = ix (A0 5 (ix (A0 0 (ix s)))) := by rw [o 5 (by decide)]
                have h6 : A 6 = A0 6 := o 6 (by decide)
                have hlt : ¬ nI i < A 5 (ix (A0 0 (ix s))) := by rw [hL.2 i (by omega)]; omega
                refine lv_iload hx hb dX10_harvest_53 (lv_at hl 0 rfl) ?_
                refine lv_aload_n hx hb dX10_harvest_55 rfl (lv_at hl 5 rfl) ?_
                refine g_alen hx hb hK hI 2 (hS.rw' hn ht0 hz0 h5) rfl (nIix h5) dX10_harvest_56 ?_
                refine lv_icmp_ge (tgt := 103) hx hb dX10_harvest_57 (by decide) (fun _ => ?_) (fun c_10 => by have c_10 := Int32.not_le.mp c_10; first | exact absurd hlt c_10 | exact absurd c_10 hlt)
                refine lv_iload hx hb dX10_harvest_103 (lv_at hl 1 rfl) ?_
                refine lv_i2l hx hb dX10_harvest_105 rfl ?_
                have e9 : sp_harvc A0 s v = (wnt.toInt64, A) := by rw [eS, show ix (A0 5 (ix (A0 0 (ix s)))) = i by omega, hT]
                exact g_lret hx hb hr hlocks hI ⟨_, rfl, by rw [e9], aa, nn, by omega, by rw [e9]; exact hS⟩ dX10_harvest_106 (by omega) (by omega)
              | succ j ih =>
                intro i wnt A G1 H1 L1 ls hki hT hS hI hl
                have o : ∀ k, k ≠ 3 → A k = A0 k := hvc_o hT
                have h5 : ¬ A 5 (ix (A0 0 (ix s))) < 0 := by rw [o 5 (by decide)]; exact h50
                have hL := hS.len30 hn ht0
                have eL : ix (A 5 (ix (A0 0 (ix s)))) = ix (A0 5 (ix (A0 0 (ix s)))) := by rw [o 5 (by decide)]
                have h6 : A 6 = A0 6 := o 6 (by decide)
                have hlt : nI i < A 5 (ix (A0 0 (ix s))) := by rw [hL.2 i (by omega)]; omega
                have hib := inb_i h5 (show i < ix (A 5 (ix (A0 0 (ix s)))) by omega) hL.1
                refine lv_iload hx hb dX10_harvest_53 (lv_at hl 0 rfl) ?_
                refine lv_aload_n hx hb dX10_harvest_55 rfl (lv_at hl 5 rfl) ?_
                refine g_alen hx hb hK hI 2 (hS.rw' hn ht0 hz0 h5) rfl (nIix h5) dX10_harvest_56 ?_
                refine lv_icmp_ge (tgt := 103) hx hb dX10_harvest_57 (by decide) (fun c_11 => by have c_11 := Int32.not_lt.mpr c_11; first | exact absurd hlt c_11 | exact absurd c_11 hlt) (fun _ => ?_)
                refine lv_aload_n hx hb dX10_harvest_60 rfl (lv_at hl 5 rfl) ?_
                refine lv_iload hx hb dX10_harvest_61 (lv_at hl 0 rfl) ?_
                rcases btf (eqb (A 6 (ix ((30 * (A0 0 (ix s))) + (nI i)))) 0) with h_12 | h_12
                · have z_13 := fun lo hi => fit_0 (A := A) lo hi h_12
                  have t_14 : tv nn (A 6 (ix ((30 * (A0 0 (ix s))) + (nI i)))) := (hS.tsl hn ht0 h5 hib)
                  refine g_aald hx hb hK hI 2 (hS.rw' hn ht0 hz0 h5) rfl (hS.slin hn ht0 h5 hib) dX10_harvest_63 ?_
                  refine W.eq (g2 := F0 mI 64 ls [.null]) (by rw [show rwf aa A (ix (A0 0 (ix s))) (Int32.toNatClampNeg (nI i)) = adr aa (A 6 (ix ((30 * (A0 0 (ix s))) + (nI i)))) from hS.slv hn ht0 h5 hib, adr_n h_12]; rfl) ?_
                  refine lv_astoreN (lv' := [(6, .null), (5, .int (nI i)), (4, .int wnt), (0, .ref (aa 0)), (1, .int s), (2, .int v), (3, .ref (aa (4 * ix (A0 0 (ix s)) + 1)))]) hx hb dX10_harvest_64 hl (by decide) rfl (fun ls hl => ?_)
                  refine lv_aloadN hx hb dX10_harvest_66 (lv_at hl 0 rfl) ?_
                  refine lv_ifnullN (tgt := 97) hx hb dX10_harvest_68 (by decide) ?_
                  refine lv_iinc (v := ((nI i) + 1)) (lv' := [(5, .int ((nI i) + 1)), (6, .null), (4, .int wnt), (0, .ref (aa 0)), (1, .int s), (2, .int v), (3, .ref (aa (4 * ix (A0 0 (ix s)) + 1)))]) hx hb dX10_harvest_97 hl (k := 1) rfl rfl (by decide) rfl (fun ls hl => ?_)
                  refine lv_goto (tgt := 53) hx hb dX10_harvest_100 (by decide) ?_
                  have e9 : hvc A0 (A0 0 (ix s)) v (i + 1) = (wnt, A) := by simp only [hvc, hT, ← h6, h_12, z_13, reduceIte, Bool.false_eq_true, not_true_eq_false, not_false_eq_true, ite_self]
                  rw [nI_1] at hl
                  exact ih (i + 1) _ _ _ _ _ ls (by omega) e9 hS hI (lv_sub hl [0, 2, 3, 4, 5, 6] rfl)
                · have _ := 0
                  have t_15 : tv nn (A 6 (ix ((30 * (A0 0 (ix s))) + (nI i)))) := (hS.tsl hn ht0 h5 hib)
                  have f_16 := hS.fsl hn ht0 hz0 h5 hib
                  refine g_aald hx hb hK hI 2 (hS.rw' hn ht0 hz0 h5) rfl (hS.slin hn ht0 h5 hib) dX10_harvest_63 ?_
                  refine W.eq (g2 := F0 mI 64 ls [.ref (aa (4 * ix (A 6 (ix ((30 * (A0 0 (ix s))) + (nI i))))))]) (by rw [show rwf aa A (ix (A0 0 (ix s))) (Int32.toNatClampNeg (nI i)) = adr aa (A 6 (ix ((30 * (A0 0 (ix s))) + (nI i)))) from hS.slv hn ht0 h5 hib, adr_s h_12]; rfl) ?_
                  refine lv_astore (lv' := [(6, .ref (aa (4 * ix (A 6 (ix ((30 * (A0 0 (ix s))) + (nI i))))))), (5, .int (nI i)), (4, .int wnt), (0, .ref (aa 0)), (1, .int s), (2, .int v), (3, .ref (aa (4 * ix (A0 0 (ix s)) + 1)))]) hx hb dX10_harvest_64 hl (by decide) rfl (fun ls hl => ?_)
                  refine lv_aload hx hb dX10_harvest_66 (lv_at hl 0 rfl) ?_
                  refine lv_ifnull hx hb dX10_harvest_68 ?_
                  refine lv_aload hx hb dX10_harvest_71 (lv_at hl 0 rfl) ?_
                  rcases fit_2 (A := A) (k := 0) (m := 1) (by decide) h_12 f_16 with h_17 | h_17
                  · have _ := 0
                    refine g_get (index := 100) (ci := 4) hx hb hts inlX4 hown hK hI (((hS.at hn t_15 h_12)).trans (congrArg some (thc_0 h_17))) rfl 1 (by decide) m_fl_X10_100 (fun _ h9 => h9) rfl dX10_harvest_73 ?_
                    refine lv_iload_n hx hb dX10_harvest_76 rfl (lv_at hl 5 rfl) ?_
                    refine lv_icmp_lt (tgt := 97) hx hb dX10_harvest_77 (by decide) (fun c_18 => ?_) (fun c_18 => ?_)
                    · refine lv_iinc (v := ((nI i) + 1)) (lv' := [(5, .int ((nI i) + 1)), (6, .ref (aa (4 * ix (A 6 (ix ((30 * (A0 0 (ix s))) + (nI i))))))), (4, .int wnt), (0, .ref (aa 0)), (1, .int s), (2, .int v), (3, .ref (aa (4 * ix (A0 0 (ix s)) + 1)))]) hx hb dX10_harvest_97 hl (k := 1) rfl rfl (by decide) rfl (fun ls hl => ?_)
                      refine lv_goto (tgt := 53) hx hb dX10_harvest_100 (by decide) ?_
                      have e9 : hvc A0 (A0 0 (ix s)) v (i + 1) = (wnt, A) := by simp only [hvc, hT, ← h6, h_12, h_17, c_18, reduceIte, Bool.false_eq_true, not_true_eq_false, not_false_eq_true, ite_self]
                      rw [nI_1] at hl
                      exact ih (i + 1) _ _ _ _ _ ls (by omega) e9 hS hI (lv_sub hl [0, 2, 3, 4, 5, 6] rfl)
                    · refine lv_aload hx hb dX10_harvest_80 (lv_at hl 0 rfl) ?_
                      refine lv_dup hx hb dX10_harvest_82 rfl ?_
                      refine g_get (index := 100) (ci := 4) hx hb hts inlX4 hown hK hI (((hS.at hn t_15 h_12)).trans (congrArg some (thc_0 h_17))) rfl 1 (by decide) m_fl_X10_100 (fun _ h9 => h9) rfl dX10_harvest_83 ?_
                      refine lv_iload_n hx hb dX10_harvest_86 rfl (lv_at hl 5 rfl) ?_
                      refine lv_isub hx hb dX10_harvest_87 ?_
                      refine g_put (index := 100) (ci := 4) hx hb hts inlX4 tyX4 tyX4_ok nmX4 hown hK hI (((hS.at hn t_15 h_12)).trans (congrArg some (thc_0 h_17))) rfl 1 (by decide) m_fl_X10_100 (fun _ h9 => h9) rfl rfl rfl (Nat.le_of_ble_eq_true rfl) dX10_harvest_88 (fun H1 L1 hI => ?_)
                      have hS := SW.p34 hS 3 (by decide) (ix (A 6 (ix ((30 * (A0 0 (ix s))) + (nI i))))) (t_15.pos hn h_12) (t_15.ixle hn).1 ((A 3 (ix (A 6 (ix ((30 * (A0 0 (ix s))) + (nI i)))))) - v) (p34y_0_3 h_17)
                      refine W.eq (g2 := F0 mI 91 ls []) rfl ?_
                      refine lv_iload hx hb dX10_harvest_91 (lv_at hl 2 rfl) ?_
                      refine lv_iload_n hx hb dX10_harvest_93 rfl (lv_at hl 5 rfl) ?_
                      refine lv_iadd hx hb dX10_harvest_94 ?_
                      refine lv_istore (lv' := [(4, .int (wnt + v)), (6, .ref (aa (4 * ix (A 6 (ix ((30 * (A0 0 (ix s))) + (nI i))))))), (5, .int (nI i)), (0, .ref (aa 0)), (1, .int s), (2, .int v), (3, .ref (aa (4 * ix (A0 0 (ix s)) + 1)))]) hx hb dX10_harvest_95 hl (by decide) rfl (fun ls hl => ?_)
                      refine lv_iinc (v := ((nI i) + 1)) (lv' := [(5, .int ((nI i) + 1)), (4, .int (wnt + v)), (6, .ref (aa (4 * ix (A 6 (ix ((30 * (A0 0 (ix s))) + (nI i))))))), (0, .ref (aa 0)), (1, .int s), (2, .int v), (3, .ref (aa (4 * ix (A0 0 (ix s)) + 1)))]) hx hb dX10_harvest_97 hl (k := 2) rfl rfl (by decide) rfl (fun ls hl => ?_)
                      refine lv_goto (tgt := 53) hx hb dX10_harvest_100 (by decide) ?_
                      have e9 : hvc A0 (A0 0 (ix s)) v (i + 1) = ((wnt + v), (u2 A 3 (ix (A 6 (ix ((30 * (A0 0 (ix s))) + (nI i))))) ((A 3 (ix (A 6 (ix ((30 * (A0 0 (ix s))) + (nI i)))))) - v))) := by simp only [hvc, hT, ← h6, h_12, h_17, c_18, reduceIte, Bool.false_eq_true, not_true_eq_false, not_false_eq_true, ite_self]
                      rw [nI_1] at hl
                      exact ih (i + 1) _ _ _ _ _ ls (by omega) e9 hS hI (lv_sub hl [0, 1, 3, 4, 5, 6] rfl)
                  · have _ := 0
                    refine g_get (index := 100) (ci := 1) hx hb hts inlX1 hown hK hI (((hS.at hn t_15 h_12)).trans (congrArg some (thc_1 h_17))) rfl 0 (by decide) m_fl_X10_100 (fun _ h9 => h9) rfl dX10_harvest_73 ?_
                    refine lv_iload_n hx hb dX10_harvest_76 rfl (lv_at hl 5 rfl) ?_
                    refine lv_icmp_lt (tgt := 97) hx hb dX10_harvest_77 (by decide) (fun c_19 => ?_) (fun c_19 => ?_)
                    · refine lv_iinc (v := ((nI i) + 1)) (lv' := [(5, .int ((nI i) + 1)), (6, .ref (aa (4 * ix (A 6 (ix ((30 * (A0 0 (ix s))) + (nI i))))))), (4, .int wnt), (0, .ref (aa 0)), (1, .int s), (2, .int v), (3, .ref (aa (4 * ix (A0 0 (ix s)) + 1)))]) hx hb dX10_harvest_97 hl (k := 1) rfl rfl (by decide) rfl (fun ls hl => ?_)
                      refine lv_goto (tgt := 53) hx hb dX10_harvest_100 (by decide) ?_
                      have e9 : hvc A0 (A0 0 (ix s)) v (i + 1) = (wnt, A) := by simp only [hvc, hT, ← h6, h_12, h_17, c_19, reduceIte, Bool.false_eq_true, not_true_eq_false, not_false_eq_true, ite_self]
                      rw [nI_1] at hl
                      exact ih (i + 1) _ _ _ _ _ ls (by omega) e9 hS hI (lv_sub hl [0, 2, 3, 4, 5, 6] rfl)
                    · refine lv_aload hx hb dX10_harvest_80 (lv_at hl 0 rfl) ?_
                      refine lv_dup hx hb dX10_harvest_82 rfl ?_
                      refine g_get (index := 100) (ci := 1) hx hb hts inlX1 hown hK hI (((hS.at hn t_15 h_12)).trans (congrArg some (thc_1 h_17))) rfl 0 (by decide) m_fl_X10_100 (fun _ h9 => h9) rfl dX10_harvest_83 ?_
                      refine lv_iload_n hx hb dX10_harvest_86 rfl (lv_at hl 5 rfl) ?_
                      refine lv_isub hx hb dX10_harvest_87 ?_
                      refine g_put (index := 100) (ci := 1) hx hb hts inlX1 tyX1 tyX1_ok nmX1 hown hK hI (((hS.at hn t_15 h_12)).trans (congrArg some (thc_1 h_17))) rfl 0 (by decide) m_fl_X10_100 (fun _ h9 => h9) rfl rfl rfl (Nat.le_of_ble_eq_true rfl) dX10_harvest_88 (fun H1 L1 hI => ?_)
                      have hS := SW.p34 hS 3 (by decide) (ix (A 6 (ix ((30 * (A0 0 (ix s))) + (nI i))))) (t_15.pos hn h_12) (t_15.ixle hn).1 ((A 3 (ix (A 6 (ix ((30 * (A0 0 (ix s))) + (nI i)))))) - v) (p34y_1_3 h_17)
                      refine W.eq (g2 := F0 mI 91 ls []) rfl ?_
                      refine lv_iload hx hb dX10_harvest_91 (lv_at hl 2 rfl) ?_
                      refine lv_iload_n hx hb dX10_harvest_93 rfl (lv_at hl 5 rfl) ?_
                      refine lv_iadd hx hb dX10_harvest_94 ?_
                      refine lv_istore (lv' := [(4, .int (wnt + v)), (6, .ref (aa (4 * ix (A 6 (ix ((30 * (A0 0 (ix s))) + (nI i))))))), (5, .int (nI i)), (0, .ref (aa 0)), (1, .int s), (2, .int v), (3, .ref (aa (4 * ix (A0 0 (ix s)) + 1)))]) hx hb dX10_harvest_95 hl (by decide) rfl (fun ls hl => ?_)
                      refine lv_iinc (v := ((nI i) + 1)) (lv' := [(5, .int ((nI i) + 1)), (4, .int (wnt + v)), (6, .ref (aa (4 * ix (A 6 (ix ((30 * (A0 0 (ix s))) + (nI i))))))), (0, .ref (aa 0)), (1, .int s), (2, .int v), (3, .ref (aa (4 * ix (A0 0 (ix s)) + 1)))]) hx hb dX10_harvest_97 hl (k := 2) rfl rfl (by decide) rfl (fun ls hl => ?_)
                      refine lv_goto (tgt := 53) hx hb dX10_harvest_100 (by decide) ?_
                      have e9 : hvc A0 (A0 0 (ix s)) v (i + 1) = ((wnt + v), (u2 A 3 (ix (A 6 (ix ((30 * (A0 0 (ix s))) + (nI i))))) ((A 3 (ix (A 6 (ix ((30 * (A0 0 (ix s))) + (nI i)))))) - v))) := by simp only [hvc, hT, ← h6, h_12, h_17, c_19, reduceIte, Bool.false_eq_true, not_true_eq_false, not_false_eq_true, ite_self]
                      rw [nI_1] at hl
                      exact ih (i + 1) _ _ _ _ _ ls (by omega) e9 hS hI (lv_sub hl [0, 1, 3, 4, 5, 6] rfl)
            exact key (ix (A0 5 (ix (A0 0 (ix s))))) 0 0 A0 _ _ _ ls (by omega) rfl hS hI (by rw [nI_0]; exact lv_sub hl [0, 1, 3, 4, 5, 2] rfl)
        · have _ := 0
          refine g_callS (own := RX10) (index := 54) (n := 1) hx hb hml hown hts (c_X10_asHive_f l E b0 _ (aa (4 * ix (A 0 (ix s)))) _ _ (hS.at hn t_7 h_4) (cix_in _) (hS.gs hn t_7 h_4 5 (by decide) h_8)) m_ml_X10_54 m_st_X10_asHive m_in_X10 m_co_X10_asHive (by decide +kernel) ⟨Nat.le_of_ble_eq_true rfl, Nat.le_of_ble_eq_true rfl⟩ ⟨by first | exact Nat.le_of_ble_eq_true rfl | (show _ ≤ 2; omega), by first | exact Nat.le_of_ble_eq_true rfl | (show _ ≤ 160; omega)⟩ rfl hl.1 rfl (Nat.le_of_ble_eq_true rfl) dX10_harvest_22 hK hI (fun r G1 H1 L1 hp hI => ?_)
          obtain ⟨v, rfl, ev, hGe⟩ := hp
          subst ev
          rw [hGe] at hI
          refine W.eq (g2 := F0 mI 25 ls [.null]) rfl ?_
          refine g_callS (own := RX10) (index := 90) (n := 1) hx hb hml hown hts (c_X10_rowOf_n l E b0 _) m_ml_X10_90 m_st_X10_rowOf m_in_X10 m_co_X10_rowOf (by decide +kernel) ⟨Nat.le_of_ble_eq_true rfl, Nat.le_of_ble_eq_true rfl⟩ ⟨by first | exact Nat.le_of_ble_eq_true rfl | (show _ ≤ 2; omega), by first | exact Nat.le_of_ble_eq_true rfl | (show _ ≤ 160; omega)⟩ rfl hl.1 rfl (Nat.le_of_ble_eq_true rfl) dX10_harvest_25 hK hI (fun r G1 H1 L1 hp hI => ?_)
          obtain ⟨v, rfl, ev, hGe⟩ := hp
          subst ev
          rw [hGe] at hI
          refine W.eq (g2 := F0 mI 28 ls [.null]) rfl ?_
          refine lv_astore_nN (lv' := [(3, .null), (0, .ref (aa 0)), (1, .int s), (2, .int v)]) hx hb dX10_harvest_28 rfl hl (by decide) rfl (fun ls hl => ?_)
          refine lv_aload_nN hx hb dX10_harvest_29 rfl (lv_at hl 0 rfl) ?_
          refine lv_ifnonnullN hx hb dX10_harvest_30 ?_
          refine lv_aload_n hx hb dX10_harvest_33 rfl (lv_at hl 1 rfl) ?_
          refine lv_aload_n hx hb dX10_harvest_34 rfl (lv_at hl 1 rfl) ?_
          refine g_get (index := 11) (ci := 8) hx hb hts inlX10 hown hK hI hS.2.2.2.1 rfl 0 (by decide) m_fl_X10_11 (fun _ h9 => h9) rfl dX10_harvest_35 ?_
          refine lv_iload_n hx hb dX10_harvest_38 rfl (lv_at hl 2 rfl) ?_
          refine g_aald hx hb hK hI 1 hS.2.2.2.2.1 rfl (sh_in h_1) dX10_harvest_39 ?_
          refine W.eq (g2 := F0 mI 40 ls [.ref (aa (4 * ix (A 0 (ix s)))), .ref (aa 0)]) (by rw [show shf aa A (Int32.toNatClampNeg s) = adr aa (A 0 (ix s)) from shf_at h_1, adr_s h_4]; rfl) ?_
          refine g_callS (own := RX10) (index := 66) (n := 1) hx hb hml hown hts (c_X10_castOrNull_f l E b0 _ (aa (4 * ix (A 0 (ix s)))) _ _ (hS.at hn t_7 h_4) (cix_in _) (hS.gs hn t_7 h_4 5 (by decide) h_8)) m_ml_X10_66 m_st_X10_castOrNull m_in_X10 m_co_X10_castOrNull (by decide +kernel) ⟨Nat.le_of_ble_eq_true rfl, Nat.le_of_ble_eq_true rfl⟩ ⟨by first | exact Nat.le_of_ble_eq_true rfl | (show _ ≤ 2; omega), by first | exact Nat.le_of_ble_eq_true rfl | (show _ ≤ 160; omega)⟩ rfl hl.1 rfl (Nat.le_of_ble_eq_true rfl) dX10_harvest_40 hK hI (fun r G1 H1 L1 hp hI => ?_)
          obtain ⟨v, rfl, ev, hGe⟩ := hp
          subst ev
          rw [hGe] at hI
          refine W.eq (g2 := F0 mI 43 ls [.int 5, .ref (aa 0)]) rfl ?_
          refine g_callV (own := RX10) (index := 96) (n := 1) hx hb hml hown hts (c_X10_refuseLong l E b0 _ _ aa _ nn hS hn 5 (vp_in_iff.mpr (by decide))) hS.2.2.2.1 rfl rfl m_ml_X10_96 m_im_X10_refuseLong m_se_X10_X10_refuseLong_X10_refuseLong m_in_X10 m_co_X10_refuseLong (by decide +kernel) ⟨Nat.le_of_ble_eq_true rfl, Nat.le_of_ble_eq_true rfl⟩ ⟨by first | exact Nat.le_of_ble_eq_true rfl | (show _ ≤ 2; omega), by first | exact Nat.le_of_ble_eq_true rfl | (show _ ≤ 160; omega)⟩ rfl hl.1 rfl (Nat.le_of_ble_eq_true rfl) dX10_harvest_43 hK hI (fun r G1 H1 L1 hp hI => ?_)
          obtain ⟨v, rfl, ev, hS⟩ := hp
          subst ev
          refine W.eq (g2 := F0 mI 46 ls [.long (-9223372036854775708 + ((-10 - 5) : Int32).toInt64)]) rfl ?_
          have e9 : sp_harvc A s v = ((-9223372036854775708 + ((-10 - 5) : Int32).toInt64), (rfs A 5)) := by
            simp only [sp_harvc, rfi, rfj, wHv, wRw, wSl, h_1, c_3, h_4, h_8, eqb_00, eqb_10, eqb_20, eqb_30, eqb_50, eqb_11, eqb_21, reduceIte, Bool.false_eq_true, not_true_eq_false, not_false_eq_true, ite_self]
          exact g_lret hx hb hr hlocks hI ⟨_, rfl, by rw [e9], aa, nn, by omega, by rw [e9]; exact hS⟩ dX10_harvest_46 (by omega) (by omega)
    · have c_3 := Int32.not_le.mp c_3
      refine lv_ldc2 hx hb hown (hts _ m_kl_X10_94) dX10_harvest_12 ?_
      have e9 : sp_harvc A s v = ((-9223372036854775808), A) := by
        simp only [sp_harvc, rfi, rfj, wHv, wRw, wSl, h_1, c_3, eqb_00, eqb_10, eqb_20, eqb_30, eqb_50, eqb_11, eqb_21, reduceIte, Bool.false_eq_true, not_true_eq_false, not_false_eq_true, ite_self]
      exact g_lret hx hb hr hlocks hI ⟨_, rfl, by rw [e9], aa, nn, by omega, by rw [e9]; exact hS⟩ dX10_harvest_15 (by omega) (by omega)
  · rw [hGe] at hI
    refine W.eq (g2 := F0 mI 4 ls [.int 0]) rfl ?_
    refine lv_if_eq (tgt := 12) hx hb dX10_harvest_4 (by decide) (fun _ => ?_) (fun c_20 => absurd c_20 (by decide))
    refine lv_ldc2 hx hb hown (hts _ m_kl_X10_94) dX10_harvest_12 ?_
    have e9 : sp_harvc A s v = ((-9223372036854775808), A) := by
      simp only [sp_harvc, rfi, rfj, wHv, wRw, wSl, h_1, eqb_00, eqb_10, eqb_20, eqb_30, eqb_50, eqb_11, eqb_21, reduceIte, Bool.false_eq_true, not_true_eq_false, not_false_eq_true, ite_self]
    exact g_lret hx hb hr hlocks hI ⟨_, rfl, by rw [e9], aa, nn, by omega, by rw [e9]; exact hS⟩ dX10_harvest_15 (by omega) (by omega)
